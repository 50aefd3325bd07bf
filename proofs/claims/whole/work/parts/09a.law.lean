theorem m_metc {l : Launch} {y : MethodName} {ws ws' : List Cond} {rm : Room} {Qc : Array Value → State → Outcome → State → Prop} {mc ms : Nat} {free : Addr → Prop} {cc : ByteArray} {maxL : Nat} {ret : Option FieldType} {hh : List (Nat × Nat × Nat × Nat)} {G : Gx} {M : Mp} (avs : List Value) (lv : List (Nat × Value))
    (hy : plainName y.cls = true) (hw : ws = Cond.codeWith y cc maxL ret hh :: ws') (hlv : lv_args 0 avs = lv) (hlen : (lg_sl avs).length ≤ maxL)
    (body : ∀ (p : Program) (e : Env) (s : State) (m : MethodId) (below : List Frame) (meth : Method) (c : Code) (ls : Array Slot), p.tables.exec = Jvm.exec → c.code = cc → meth.sig.returnType = ret → c.maxLocals = maxL → s.vm.findClass y.cls = some m.cls → (∀ w ∈ ws, w.before avs.toArray s = true) → meth.locks = false → meth.name = y.name → c.exceptionTable.toList = tableOf hh → Cx G s → Hm G M s.heap → lv_has ls maxL lv →
      va_S (AG G) s.heap s.heap [] → W p l e rm s m avs.toArray below meth c s.heap [] 0 0 (MQ below Qc avs.toArray s mc ms free) (F0 m 0 ls [])) : Met l y ws rm (Cv G M avs) Qc mc ms free := by
  refine va_MetW (cc := cc) (maxL := maxL) (ret := ret) (hh := hh) hy hw ?_
  intro p e s m args below meth c s₁ B hml hv
  obtain ⟨rfl, hC, hM⟩ := hv
  rw [lg_entry_eq]
  have hl := lv_entry avs (n := maxL) hlen
  rw [hlv] at hl
  have hall := atoms_spec (ws := ws) B.pre
  exact body p e s m below meth c _ B.exec B.bytes B.returns hml (findClass_of_methodNamed B.named) hall B.notSynchronized (name_of_methodNamed B.named B.method).1 (vx_table (x := y) B (hall _ (by rw [hw]; exact List.mem_cons_self))) hC hM hl va_S.rf
theorem Hm.out {G : Gx} {M : Mp} {H : Heap} {a : Nat} {cA : ClassId} {f g : Nat → Int64} (h : Hm G (va_up M a (some (.inl (cA, 1, .inr (.inl f))))) H) (hfg : f 0 = g 0) : Hm G (va_up M a (some (.inl (cA, 1, .inr (.inl g))))) H := by
  have hc : vp_cell cA (1, .inr (.inl f)) = vp_cell cA (1, .inr (.inl g)) := by
    rw [vp_cell_l, vp_cell_l]
    simp [arrV, hfg]
  obtain ⟨ws, hP, hD, hk⟩ := h
  obtain ⟨k0, h0⟩ := hk a _ up_eq
  have h2 : va_at G.1 vwCl (a, .inl (cA, 1, .inr (.inl g))) H := by
    have h3 := hP k0 _ h0
    show H[a]? = some (vp_cell cA (1, .inr (.inl g)))
    rw [← hc]
    exact h3
  have h1 := Hm.set hD hk h0 (hP.set hD h0 h2 (fun q _ => rfl)) (hD.set h0)
  rw [up2] at h1
  exact h1
theorem xc_use {G : Gx} {s : State} {args : Array Value} (hC : Cx G s) {w : Cond} (h : w ∈ XC) : w.before args s = true := va_Nw.use (List.all_eq_true.mp (by decide +kernel : XC.all (fun w => w.onTables) = true) w h) (hC.2.2.2.1 w h)
set_option maxHeartbeats 4000000 in
set_option maxRecDepth 100000 in
theorem c_L_setRate {l : Launch} (hnt : l.stackTraces = false) (l' : Launch) (G : Gx) (M : Mp) (S T : Sd) (th : Int32) (o : Int64) (ex : Nat → Option (Nat × Nat)) (ad : Nat → Nat → Nat) (n x : Int32) (hw : WA G S T th o ex ad M) (hi : Iv S) : Met l yL_setRate wsL_setRate ({ frames := 8, cells := 2, slots := 12, locals := 136 }) (Cv G M [.ref (ad 0 0), .int n, .int x, .ref (ad 28 0)]) (va_Qi (S := Mp) (fun r M2 => (r = 1 ∧ (¬ (0 ≤ n ∧ n < 4)) ∧ WA G S T th o ex ad M2) ∨ (r = 2 ∧ ((0 ≤ n ∧ n < 4) ∧ ¬ (1 ≤ x ∧ x ≤ 100000)) ∧ WA G S T th o ex ad M2) ∨ (r = 0 ∧ ((0 ≤ n ∧ n < 4) ∧ (1 ≤ x ∧ x ≤ 100000)) ∧ WA G (u2 S.1 1 n.toNatClampNeg x, S.2) T th ((S.1 1 n.toNatClampNeg).toInt64) ex ad M2)) (Bm G (fun M2 => M2)) (AG G)) (2) (12) (AG G) := by
  refine m_metc (hh := [(0, 10, 13, 13), (0, 10, 17, 15)]) [.ref (ad 0 0), .int n, .int x, .ref (ad 28 0)] [(0, .ref (ad 0 0)), (1, .int n), (2, .int x), (3, .ref (ad 28 0))] (by decide) rfl rfl (Nat.le_of_ble_eq_true rfl) ?_
  intro p e s m below meth c ls hx hb hr hml hown hts hlocks hin hT hC hM hl hS
  have f0 : M (ad 0 0) = some (.inr (5, [.ref (ad 1 0), .ref (ad 3 0), .ref (ad 5 0), .ref (ad 10 0), .int (S.1 5 0)])) := hw.1 0 0 _ rfl
  have fo : M (ad 28 0) = some (.inl (G.2.1 1, 1, .inr (.inl (fun _ => o)))) := hw.1 28 0 _ rfl
  refine lv_aload_n hx hb dL_setRate_0 rfl (lv_at hl 3 rfl) ?_
  refine lv_iconst (v := 0) hx hb dL_setRate_1 (by decide) ?_
  refine lv_aload_n hx hb dL_setRate_2 rfl (lv_at hl 0 rfl) ?_
  refine lv_iload_n hx hb dL_setRate_3 rfl (lv_at hl 1 rfl) ?_
  refine lv_iload_n hx hb dL_setRate_4 rfl (lv_at hl 2 rfl) ?_
  refine kx_i (vx_runV (As := [.int n, .int x]) (rest := [.int 0, .ref (ad 28 0)]) ⟨hx, hb, hml, hown, hts⟩ (c_X5_setRate hnt l G M S T th o ex ad n x hw hi) (cwV 2 hts gL_setRate_X5_setRate rfl rfl rfl (by decide +kernel) ⟨Nat.le_of_ble_eq_true rfl, Nat.le_of_ble_eq_true rfl⟩) (preV_of hC hS hM f0 rfl) rfl rfl hl.1 rfl (lv_room (Nat.le_of_ble_eq_true rfl)) dL_setRate_5 ⟨Nat.le_of_ble_eq_true rfl, Nat.le_of_ble_eq_true rfl⟩) hS (fun E ce q9 H locs hE hM hS h1 h2 h3 => ?_) (fun r5 u5 H locs hp5 hM hS => ?_)
  · rcases hE with ⟨rfl, z9⟩ | ⟨rfl, z9⟩
    · refine vx_catch (own := RL) (name := IO) hown [] ⟨0, 10, 13, 13⟩ [⟨0, 10, 17, 15⟩] (by rw [hT]; rfl) (fun z hz => absurd hz List.not_mem_nil) (by decide) (by decide) (hts (.classLink RL 13 IO) (by decide +kernel)) (xc_use hC (by decide)) h1 h2 h3 ?_
      show W p l e _ s m _ below meth c _ _ _ _ _ (F0 m 13 ls [.ref q9])
      refine lv_astore (lv' := [(4, .ref q9), (0, .ref (ad 0 0)), (1, .int n), (2, .int x), (3, .ref (ad 28 0))]) hx hb dL_setRate_13 hl (by decide) rfl (fun ls hl => ?_)
      refine lv_iconst (v := 1) hx hb dL_setRate_15 (by decide) ?_
      exact (r_i hx hb hr hlocks hS (v := 1) _ (Or.inl (⟨rfl, z9, hw⟩)) hM (Nat.le_of_ble_eq_true rfl) (Nat.le_of_ble_eq_true rfl) dL_setRate_16)
    · refine vx_catch (own := RL) (name := IA) hown [⟨0, 10, 13, 13⟩] ⟨0, 10, 17, 15⟩ [] (by rw [hT]; rfl) (fun z hz => by rw [List.mem_singleton.mp hz]; exact Or.inr ⟨by decide, IO, hts (.classLink RL 13 IO) (by decide +kernel), hC.2.2.2.2.2.1 (IA, IO) (by decide)⟩) (by decide) (by decide) (hts (.classLink RL 15 IA) (by decide +kernel)) (xc_use hC (by decide)) h1 h2 h3 ?_
      show W p l e _ s m _ below meth c _ _ _ _ _ (F0 m 17 ls [.ref q9])
      refine lv_astore (lv' := [(4, .ref q9), (0, .ref (ad 0 0)), (1, .int n), (2, .int x), (3, .ref (ad 28 0))]) hx hb dL_setRate_17 hl (by decide) rfl (fun ls hl => ?_)
      refine lv_iconst (v := 2) hx hb dL_setRate_19 (by decide) ?_
      exact (r_i hx hb hr hlocks hS (v := 2) _ (Or.inr (Or.inl (⟨rfl, z9, hw⟩))) hM (Nat.le_of_ble_eq_true rfl) (Nat.le_of_ble_eq_true rfl) dL_setRate_20)
  obtain ⟨c90, c91, er, hw9⟩ := hp5
  subst er
  have hM : Hm G u5 H := hM
  have go : u5 (ad 28 0) = some (.inl (G.2.1 1, 1, .inr (.inl (fun _ => o)))) := hw9.1 28 0 _ rfl
  refine lv_i2l hx hb dL_setRate_8 rfl ?_
  refine m_last (a := (ad 28 0)) hx hb hC hM hS go (vin_of (n := 1) 1 (by decide) (by decide)) dL_setRate_9 (fun H locs hM hS => ?_)
  have hM : Hm G (va_up u5 (ad 28 0) (some (.inl (G.2.1 1, 1, .inr (.inl (vp_updL (fun _ => o) (0 : Int32).toNatClampNeg (((S.1 1 n.toNatClampNeg)).toInt64))))))) H := hM
  have f9_2 : (va_up u5 (ad 28 0) (some (.inl (G.2.1 1, 1, .inr (.inl (vp_updL (fun _ => o) (0 : Int32).toNatClampNeg (((S.1 1 n.toNatClampNeg)).toInt64))))))) (ad 28 0) = some (.inl (G.2.1 1, 1, .inr (.inl (vp_updL (fun _ => o) (0 : Int32).toNatClampNeg (((S.1 1 n.toNatClampNeg)).toInt64))))) := up_eq
  refine lv_goto (tgt := 21) hx hb dL_setRate_10 (by decide) ?_
  refine lv_iconst (v := 0) hx hb dL_setRate_21 (by decide) ?_
  have hM := Hm.out (g := fun _ => ((S.1 1 n.toNatClampNeg)).toInt64) hM rfl
  have hwo := w_out hw9 (((S.1 1 n.toNatClampNeg)).toInt64)
  exact (r_i hx hb hr hlocks hS (v := 0) _ (Or.inr (Or.inr (⟨rfl, ⟨c90, c91⟩, hwo⟩))) hM (Nat.le_of_ble_eq_true rfl) (Nat.le_of_ble_eq_true rfl) dL_setRate_22)
set_option maxHeartbeats 4000000 in
set_option maxRecDepth 100000 in
theorem c_L_setPoints {l : Launch} (hnt : l.stackTraces = false) (l' : Launch) (G : Gx) (M : Mp) (S T : Sd) (th : Int32) (o : Int64) (ex : Nat → Option (Nat × Nat)) (ad : Nat → Nat → Nat) (n x : Int32) (hw : WA G S T th o ex ad M) (hi : Iv S) : Met l yL_setPoints wsL_setPoints ({ frames := 8, cells := 2, slots := 12, locals := 136 }) (Cv G M [.ref (ad 0 0), .int n, .int x, .ref (ad 28 0)]) (va_Qi (S := Mp) (fun r M2 => (r = 1 ∧ (¬ (0 ≤ n ∧ n < 4)) ∧ WA G S T th o ex ad M2) ∨ (r = 2 ∧ ((0 ≤ n ∧ n < 4) ∧ ¬ ((-50) ≤ x ∧ x ≤ 50)) ∧ WA G S T th o ex ad M2) ∨ (r = 0 ∧ ((0 ≤ n ∧ n < 4) ∧ ((-50) ≤ x ∧ x ≤ 50)) ∧ WA G (u2 S.1 2 n.toNatClampNeg x, S.2) T th ((S.1 2 n.toNatClampNeg).toInt64) ex ad M2)) (Bm G (fun M2 => M2)) (AG G)) (2) (12) (AG G) := by
  refine m_metc (hh := [(0, 10, 13, 13), (0, 10, 17, 15)]) [.ref (ad 0 0), .int n, .int x, .ref (ad 28 0)] [(0, .ref (ad 0 0)), (1, .int n), (2, .int x), (3, .ref (ad 28 0))] (by decide) rfl rfl (Nat.le_of_ble_eq_true rfl) ?_
  intro p e s m below meth c ls hx hb hr hml hown hts hlocks hin hT hC hM hl hS
  have f0 : M (ad 0 0) = some (.inr (5, [.ref (ad 1 0), .ref (ad 3 0), .ref (ad 5 0), .ref (ad 10 0), .int (S.1 5 0)])) := hw.1 0 0 _ rfl
  have fo : M (ad 28 0) = some (.inl (G.2.1 1, 1, .inr (.inl (fun _ => o)))) := hw.1 28 0 _ rfl
  refine lv_aload_n hx hb dL_setPoints_0 rfl (lv_at hl 3 rfl) ?_
  refine lv_iconst (v := 0) hx hb dL_setPoints_1 (by decide) ?_
  refine lv_aload_n hx hb dL_setPoints_2 rfl (lv_at hl 0 rfl) ?_
  refine lv_iload_n hx hb dL_setPoints_3 rfl (lv_at hl 1 rfl) ?_
  refine lv_iload_n hx hb dL_setPoints_4 rfl (lv_at hl 2 rfl) ?_
  refine kx_i (vx_runV (As := [.int n, .int x]) (rest := [.int 0, .ref (ad 28 0)]) ⟨hx, hb, hml, hown, hts⟩ (c_X5_setPoints hnt l G M S T th o ex ad n x hw hi) (cwV 2 hts gL_setPoints_X5_setPoints rfl rfl rfl (by decide +kernel) ⟨Nat.le_of_ble_eq_true rfl, Nat.le_of_ble_eq_true rfl⟩) (preV_of hC hS hM f0 rfl) rfl rfl hl.1 rfl (lv_room (Nat.le_of_ble_eq_true rfl)) dL_setPoints_5 ⟨Nat.le_of_ble_eq_true rfl, Nat.le_of_ble_eq_true rfl⟩) hS (fun E ce q9 H locs hE hM hS h1 h2 h3 => ?_) (fun r5 u5 H locs hp5 hM hS => ?_)
  · rcases hE with ⟨rfl, z9⟩ | ⟨rfl, z9⟩
    · refine vx_catch (own := RL) (name := IO) hown [] ⟨0, 10, 13, 13⟩ [⟨0, 10, 17, 15⟩] (by rw [hT]; rfl) (fun z hz => absurd hz List.not_mem_nil) (by decide) (by decide) (hts (.classLink RL 13 IO) (by decide +kernel)) (xc_use hC (by decide)) h1 h2 h3 ?_
      show W p l e _ s m _ below meth c _ _ _ _ _ (F0 m 13 ls [.ref q9])
      refine lv_astore (lv' := [(4, .ref q9), (0, .ref (ad 0 0)), (1, .int n), (2, .int x), (3, .ref (ad 28 0))]) hx hb dL_setPoints_13 hl (by decide) rfl (fun ls hl => ?_)
      refine lv_iconst (v := 1) hx hb dL_setPoints_15 (by decide) ?_
      exact (r_i hx hb hr hlocks hS (v := 1) _ (Or.inl (⟨rfl, z9, hw⟩)) hM (Nat.le_of_ble_eq_true rfl) (Nat.le_of_ble_eq_true rfl) dL_setPoints_16)
    · refine vx_catch (own := RL) (name := IA) hown [⟨0, 10, 13, 13⟩] ⟨0, 10, 17, 15⟩ [] (by rw [hT]; rfl) (fun z hz => by rw [List.mem_singleton.mp hz]; exact Or.inr ⟨by decide, IO, hts (.classLink RL 13 IO) (by decide +kernel), hC.2.2.2.2.2.1 (IA, IO) (by decide)⟩) (by decide) (by decide) (hts (.classLink RL 15 IA) (by decide +kernel)) (xc_use hC (by decide)) h1 h2 h3 ?_
      show W p l e _ s m _ below meth c _ _ _ _ _ (F0 m 17 ls [.ref q9])
      refine lv_astore (lv' := [(4, .ref q9), (0, .ref (ad 0 0)), (1, .int n), (2, .int x), (3, .ref (ad 28 0))]) hx hb dL_setPoints_17 hl (by decide) rfl (fun ls hl => ?_)
      refine lv_iconst (v := 2) hx hb dL_setPoints_19 (by decide) ?_
      exact (r_i hx hb hr hlocks hS (v := 2) _ (Or.inr (Or.inl (⟨rfl, z9, hw⟩))) hM (Nat.le_of_ble_eq_true rfl) (Nat.le_of_ble_eq_true rfl) dL_setPoints_20)
  obtain ⟨c90, c91, er, hw9⟩ := hp5
  subst er
  have hM : Hm G u5 H := hM
  have go : u5 (ad 28 0) = some (.inl (G.2.1 1, 1, .inr (.inl (fun _ => o)))) := hw9.1 28 0 _ rfl
  refine lv_i2l hx hb dL_setPoints_8 rfl ?_
  refine m_last (a := (ad 28 0)) hx hb hC hM hS go (vin_of (n := 1) 1 (by decide) (by decide)) dL_setPoints_9 (fun H locs hM hS => ?_)
  have hM : Hm G (va_up u5 (ad 28 0) (some (.inl (G.2.1 1, 1, .inr (.inl (vp_updL (fun _ => o) (0 : Int32).toNatClampNeg (((S.1 2 n.toNatClampNeg)).toInt64))))))) H := hM
  have f9_2 : (va_up u5 (ad 28 0) (some (.inl (G.2.1 1, 1, .inr (.inl (vp_updL (fun _ => o) (0 : Int32).toNatClampNeg (((S.1 2 n.toNatClampNeg)).toInt64))))))) (ad 28 0) = some (.inl (G.2.1 1, 1, .inr (.inl (vp_updL (fun _ => o) (0 : Int32).toNatClampNeg (((S.1 2 n.toNatClampNeg)).toInt64))))) := up_eq
  refine lv_goto (tgt := 21) hx hb dL_setPoints_10 (by decide) ?_
  refine lv_iconst (v := 0) hx hb dL_setPoints_21 (by decide) ?_
  have hM := Hm.out (g := fun _ => ((S.1 2 n.toNatClampNeg)).toInt64) hM rfl
  have hwo := w_out hw9 (((S.1 2 n.toNatClampNeg)).toInt64)
  exact (r_i hx hb hr hlocks hS (v := 0) _ (Or.inr (Or.inr (⟨rfl, ⟨c90, c91⟩, hwo⟩))) hM (Nat.le_of_ble_eq_true rfl) (Nat.le_of_ble_eq_true rfl) dL_setPoints_22)
set_option maxHeartbeats 4000000 in
set_option maxRecDepth 100000 in
theorem c_L_setLimit {l : Launch} (hnt : l.stackTraces = false) (l' : Launch) (G : Gx) (M : Mp) (S T : Sd) (th : Int32) (o : Int64) (ex : Nat → Option (Nat × Nat)) (ad : Nat → Nat → Nat) (n x : Int32) (hw : WA G S T th o ex ad M) (hi : Iv S) : Met l yL_setLimit wsL_setLimit ({ frames := 8, cells := 2, slots := 12, locals := 136 }) (Cv G M [.ref (ad 0 0), .int n, .int x, .ref (ad 28 0)]) (va_Qi (S := Mp) (fun r M2 => (r = 1 ∧ (¬ (0 ≤ n ∧ n < 5)) ∧ WA G S T th o ex ad M2) ∨ (r = 2 ∧ ((0 ≤ n ∧ n < 5) ∧ ¬ (0 ≤ x ∧ x ≤ 100000000)) ∧ WA G S T th o ex ad M2) ∨ (r = 0 ∧ ((0 ≤ n ∧ n < 5) ∧ (0 ≤ x ∧ x ≤ 100000000)) ∧ WA G (u2 S.1 3 n.toNatClampNeg x, u2 S.2 2 n.toNatClampNeg x.toInt64) T th ((S.1 3 n.toNatClampNeg).toInt64) ex ad M2)) (Bm G (fun M2 => M2)) (AG G)) (2) (12) (AG G) := by
  refine m_metc (hh := [(0, 10, 13, 13), (0, 10, 17, 15)]) [.ref (ad 0 0), .int n, .int x, .ref (ad 28 0)] [(0, .ref (ad 0 0)), (1, .int n), (2, .int x), (3, .ref (ad 28 0))] (by decide) rfl rfl (Nat.le_of_ble_eq_true rfl) ?_
  intro p e s m below meth c ls hx hb hr hml hown hts hlocks hin hT hC hM hl hS
  have f0 : M (ad 0 0) = some (.inr (5, [.ref (ad 1 0), .ref (ad 3 0), .ref (ad 5 0), .ref (ad 10 0), .int (S.1 5 0)])) := hw.1 0 0 _ rfl
  have fo : M (ad 28 0) = some (.inl (G.2.1 1, 1, .inr (.inl (fun _ => o)))) := hw.1 28 0 _ rfl
  refine lv_aload_n hx hb dL_setLimit_0 rfl (lv_at hl 3 rfl) ?_
  refine lv_iconst (v := 0) hx hb dL_setLimit_1 (by decide) ?_
  refine lv_aload_n hx hb dL_setLimit_2 rfl (lv_at hl 0 rfl) ?_
  refine lv_iload_n hx hb dL_setLimit_3 rfl (lv_at hl 1 rfl) ?_
  refine lv_iload_n hx hb dL_setLimit_4 rfl (lv_at hl 2 rfl) ?_
  refine kx_i (vx_runV (As := [.int n, .int x]) (rest := [.int 0, .ref (ad 28 0)]) ⟨hx, hb, hml, hown, hts⟩ (c_X5_setLimit hnt l G M S T th o ex ad n x hw hi) (cwV 2 hts gL_setLimit_X5_setLimit rfl rfl rfl (by decide +kernel) ⟨Nat.le_of_ble_eq_true rfl, Nat.le_of_ble_eq_true rfl⟩) (preV_of hC hS hM f0 rfl) rfl rfl hl.1 rfl (lv_room (Nat.le_of_ble_eq_true rfl)) dL_setLimit_5 ⟨Nat.le_of_ble_eq_true rfl, Nat.le_of_ble_eq_true rfl⟩) hS (fun E ce q9 H locs hE hM hS h1 h2 h3 => ?_) (fun r5 u5 H locs hp5 hM hS => ?_)
  · rcases hE with ⟨rfl, z9⟩ | ⟨rfl, z9⟩
    · refine vx_catch (own := RL) (name := IO) hown [] ⟨0, 10, 13, 13⟩ [⟨0, 10, 17, 15⟩] (by rw [hT]; rfl) (fun z hz => absurd hz List.not_mem_nil) (by decide) (by decide) (hts (.classLink RL 13 IO) (by decide +kernel)) (xc_use hC (by decide)) h1 h2 h3 ?_
      show W p l e _ s m _ below meth c _ _ _ _ _ (F0 m 13 ls [.ref q9])
      refine lv_astore (lv' := [(4, .ref q9), (0, .ref (ad 0 0)), (1, .int n), (2, .int x), (3, .ref (ad 28 0))]) hx hb dL_setLimit_13 hl (by decide) rfl (fun ls hl => ?_)
      refine lv_iconst (v := 1) hx hb dL_setLimit_15 (by decide) ?_
      exact (r_i hx hb hr hlocks hS (v := 1) _ (Or.inl (⟨rfl, z9, hw⟩)) hM (Nat.le_of_ble_eq_true rfl) (Nat.le_of_ble_eq_true rfl) dL_setLimit_16)
    · refine vx_catch (own := RL) (name := IA) hown [⟨0, 10, 13, 13⟩] ⟨0, 10, 17, 15⟩ [] (by rw [hT]; rfl) (fun z hz => by rw [List.mem_singleton.mp hz]; exact Or.inr ⟨by decide, IO, hts (.classLink RL 13 IO) (by decide +kernel), hC.2.2.2.2.2.1 (IA, IO) (by decide)⟩) (by decide) (by decide) (hts (.classLink RL 15 IA) (by decide +kernel)) (xc_use hC (by decide)) h1 h2 h3 ?_
      show W p l e _ s m _ below meth c _ _ _ _ _ (F0 m 17 ls [.ref q9])
      refine lv_astore (lv' := [(4, .ref q9), (0, .ref (ad 0 0)), (1, .int n), (2, .int x), (3, .ref (ad 28 0))]) hx hb dL_setLimit_17 hl (by decide) rfl (fun ls hl => ?_)
      refine lv_iconst (v := 2) hx hb dL_setLimit_19 (by decide) ?_
      exact (r_i hx hb hr hlocks hS (v := 2) _ (Or.inr (Or.inl (⟨rfl, z9, hw⟩))) hM (Nat.le_of_ble_eq_true rfl) (Nat.le_of_ble_eq_true rfl) dL_setLimit_20)
  obtain ⟨c90, c91, er, hw9⟩ := hp5
  subst er
  have hM : Hm G u5 H := hM
  have go : u5 (ad 28 0) = some (.inl (G.2.1 1, 1, .inr (.inl (fun _ => o)))) := hw9.1 28 0 _ rfl
  refine lv_i2l hx hb dL_setLimit_8 rfl ?_
  refine m_last (a := (ad 28 0)) hx hb hC hM hS go (vin_of (n := 1) 1 (by decide) (by decide)) dL_setLimit_9 (fun H locs hM hS => ?_)
  have hM : Hm G (va_up u5 (ad 28 0) (some (.inl (G.2.1 1, 1, .inr (.inl (vp_updL (fun _ => o) (0 : Int32).toNatClampNeg (((S.1 3 n.toNatClampNeg)).toInt64))))))) H := hM
  have f9_2 : (va_up u5 (ad 28 0) (some (.inl (G.2.1 1, 1, .inr (.inl (vp_updL (fun _ => o) (0 : Int32).toNatClampNeg (((S.1 3 n.toNatClampNeg)).toInt64))))))) (ad 28 0) = some (.inl (G.2.1 1, 1, .inr (.inl (vp_updL (fun _ => o) (0 : Int32).toNatClampNeg (((S.1 3 n.toNatClampNeg)).toInt64))))) := up_eq
  refine lv_goto (tgt := 21) hx hb dL_setLimit_10 (by decide) ?_
  refine lv_iconst (v := 0) hx hb dL_setLimit_21 (by decide) ?_
  have hM := Hm.out (g := fun _ => ((S.1 3 n.toNatClampNeg)).toInt64) hM rfl
  have hwo := w_out hw9 (((S.1 3 n.toNatClampNeg)).toInt64)
  exact (r_i hx hb hr hlocks hS (v := 0) _ (Or.inr (Or.inr (⟨rfl, ⟨c90, c91⟩, hwo⟩))) hM (Nat.le_of_ble_eq_true rfl) (Nat.le_of_ble_eq_true rfl) dL_setLimit_22)
set_option maxHeartbeats 4000000 in
set_option maxRecDepth 100000 in
theorem c_L_forward {l : Launch} (hnt : l.stackTraces = false) (l' : Launch) (G : Gx) (M : Mp) (S T : Sd) (th : Int32) (o : Int64) (ex : Nat → Option (Nat × Nat)) (ad : Nat → Nat → Nat) (n x : Int32) (hw : WA G S T th o ex ad M) (hi : Iv S) : Met l yL_forward wsL_forward ({ frames := 8, cells := 2, slots := 12, locals := 135 }) (Cv G M [.ref (ad 0 0), .int n, .int x, .ref (ad 28 0)]) (va_Qi (S := Mp) (fun r M2 => (r = 1 ∧ (¬ (0 ≤ n ∧ n < 4)) ∧ WA G S T th o ex ad M2) ∨ (r = 2 ∧ ((0 ≤ n ∧ n < 4) ∧ ¬ (0 ≤ x ∧ x ≤ 400)) ∧ WA G S T th o ex ad M2) ∨ (r = 0 ∧ ((0 ≤ n ∧ n < 4) ∧ (0 ≤ x ∧ x ≤ 400)) ∧ WA G S T th ((al1 (S.1 1 n.toNatClampNeg + S.1 2 n.toNatClampNeg * x)).toInt64) ex ad M2)) (Bm G (fun M2 => M2)) (AG G)) (2) (12) (AG G) := by
  refine m_metc (hh := [(0, 10, 13, 13), (0, 10, 17, 15)]) [.ref (ad 0 0), .int n, .int x, .ref (ad 28 0)] [(0, .ref (ad 0 0)), (1, .int n), (2, .int x), (3, .ref (ad 28 0))] (by decide) rfl rfl (Nat.le_of_ble_eq_true rfl) ?_
  intro p e s m below meth c ls hx hb hr hml hown hts hlocks hin hT hC hM hl hS
  have f0 : M (ad 0 0) = some (.inr (5, [.ref (ad 1 0), .ref (ad 3 0), .ref (ad 5 0), .ref (ad 10 0), .int (S.1 5 0)])) := hw.1 0 0 _ rfl
  have fo : M (ad 28 0) = some (.inl (G.2.1 1, 1, .inr (.inl (fun _ => o)))) := hw.1 28 0 _ rfl
  refine lv_aload_n hx hb dL_forward_0 rfl (lv_at hl 3 rfl) ?_
  refine lv_iconst (v := 0) hx hb dL_forward_1 (by decide) ?_
  refine lv_aload_n hx hb dL_forward_2 rfl (lv_at hl 0 rfl) ?_
  refine lv_iload_n hx hb dL_forward_3 rfl (lv_at hl 1 rfl) ?_
  refine lv_iload_n hx hb dL_forward_4 rfl (lv_at hl 2 rfl) ?_
  refine kx_i (vx_runV (As := [.int n, .int x]) (rest := [.int 0, .ref (ad 28 0)]) ⟨hx, hb, hml, hown, hts⟩ (c_X5_forward hnt l G M S T th o ex ad n x hw hi) (cwV 2 hts gL_forward_X5_forward rfl rfl rfl (by decide +kernel) ⟨Nat.le_of_ble_eq_true rfl, Nat.le_of_ble_eq_true rfl⟩) (preV_of hC hS hM f0 rfl) rfl rfl hl.1 rfl (lv_room (Nat.le_of_ble_eq_true rfl)) dL_forward_5 ⟨Nat.le_of_ble_eq_true rfl, Nat.le_of_ble_eq_true rfl⟩) hS (fun E ce q9 H locs hE hM hS h1 h2 h3 => ?_) (fun r5 u5 H locs hp5 hM hS => ?_)
  · rcases hE with ⟨rfl, z9⟩ | ⟨rfl, z9⟩
    · refine vx_catch (own := RL) (name := IO) hown [] ⟨0, 10, 13, 13⟩ [⟨0, 10, 17, 15⟩] (by rw [hT]; rfl) (fun z hz => absurd hz List.not_mem_nil) (by decide) (by decide) (hts (.classLink RL 13 IO) (by decide +kernel)) (xc_use hC (by decide)) h1 h2 h3 ?_
      show W p l e _ s m _ below meth c _ _ _ _ _ (F0 m 13 ls [.ref q9])
      refine lv_astore (lv' := [(4, .ref q9), (0, .ref (ad 0 0)), (1, .int n), (2, .int x), (3, .ref (ad 28 0))]) hx hb dL_forward_13 hl (by decide) rfl (fun ls hl => ?_)
      refine lv_iconst (v := 1) hx hb dL_forward_15 (by decide) ?_
      exact (r_i hx hb hr hlocks hS (v := 1) _ (Or.inl (⟨rfl, z9, hw⟩)) hM (Nat.le_of_ble_eq_true rfl) (Nat.le_of_ble_eq_true rfl) dL_forward_16)
    · refine vx_catch (own := RL) (name := IA) hown [⟨0, 10, 13, 13⟩] ⟨0, 10, 17, 15⟩ [] (by rw [hT]; rfl) (fun z hz => by rw [List.mem_singleton.mp hz]; exact Or.inr ⟨by decide, IO, hts (.classLink RL 13 IO) (by decide +kernel), hC.2.2.2.2.2.1 (IA, IO) (by decide)⟩) (by decide) (by decide) (hts (.classLink RL 15 IA) (by decide +kernel)) (xc_use hC (by decide)) h1 h2 h3 ?_
      show W p l e _ s m _ below meth c _ _ _ _ _ (F0 m 17 ls [.ref q9])
      refine lv_astore (lv' := [(4, .ref q9), (0, .ref (ad 0 0)), (1, .int n), (2, .int x), (3, .ref (ad 28 0))]) hx hb dL_forward_17 hl (by decide) rfl (fun ls hl => ?_)
      refine lv_iconst (v := 2) hx hb dL_forward_19 (by decide) ?_
      exact (r_i hx hb hr hlocks hS (v := 2) _ (Or.inr (Or.inl (⟨rfl, z9, hw⟩))) hM (Nat.le_of_ble_eq_true rfl) (Nat.le_of_ble_eq_true rfl) dL_forward_20)
  obtain ⟨c90, c91, er⟩ := hp5
  subst er
  have hM : Hm G M H := hM
  have hw9 := hw
  refine lv_i2l hx hb dL_forward_8 rfl ?_
  refine m_last (a := (ad 28 0)) hx hb hC hM hS fo (vin_of (n := 1) 1 (by decide) (by decide)) dL_forward_9 (fun H locs hM hS => ?_)
  have hM : Hm G (va_up M (ad 28 0) (some (.inl (G.2.1 1, 1, .inr (.inl (vp_updL (fun _ => o) (0 : Int32).toNatClampNeg (((al1 (S.1 1 n.toNatClampNeg + S.1 2 n.toNatClampNeg * x))).toInt64))))))) H := hM
  have f9_2 : (va_up M (ad 28 0) (some (.inl (G.2.1 1, 1, .inr (.inl (vp_updL (fun _ => o) (0 : Int32).toNatClampNeg (((al1 (S.1 1 n.toNatClampNeg + S.1 2 n.toNatClampNeg * x))).toInt64))))))) (ad 0 0) = some (.inr (5, [.ref (ad 1 0), .ref (ad 3 0), .ref (ad 5 0), .ref (ad 10 0), .int (S.1 5 0)])) := (up_ne (fun h9 => absurd (Eq.trans (Eq.trans (Eq.symm f0) (congrArg M h9)) fo) (by simp))).trans f0
  have f9_3 : (va_up M (ad 28 0) (some (.inl (G.2.1 1, 1, .inr (.inl (vp_updL (fun _ => o) (0 : Int32).toNatClampNeg (((al1 (S.1 1 n.toNatClampNeg + S.1 2 n.toNatClampNeg * x))).toInt64))))))) (ad 28 0) = some (.inl (G.2.1 1, 1, .inr (.inl (vp_updL (fun _ => o) (0 : Int32).toNatClampNeg (((al1 (S.1 1 n.toNatClampNeg + S.1 2 n.toNatClampNeg * x))).toInt64))))) := up_eq
  refine lv_goto (tgt := 21) hx hb dL_forward_10 (by decide) ?_
  refine lv_iconst (v := 0) hx hb dL_forward_21 (by decide) ?_
  have hM := Hm.out (g := fun _ => ((al1 (S.1 1 n.toNatClampNeg + S.1 2 n.toNatClampNeg * x))).toInt64) hM rfl
  have hwo := w_out hw9 (((al1 (S.1 1 n.toNatClampNeg + S.1 2 n.toNatClampNeg * x))).toInt64)
  exact (r_i hx hb hr hlocks hS (v := 0) _ (Or.inr (Or.inr (⟨rfl, ⟨c90, c91⟩, hwo⟩))) hM (Nat.le_of_ble_eq_true rfl) (Nat.le_of_ble_eq_true rfl) dL_forward_22)
set_option maxHeartbeats 4000000 in
set_option maxRecDepth 100000 in
theorem c_L_balance {l : Launch} (hnt : l.stackTraces = false) (l' : Launch) (G : Gx) (M : Mp) (S T : Sd) (th : Int32) (o : Int64) (ex : Nat → Option (Nat × Nat)) (ad : Nat → Nat → Nat) (n x : Int32) (hw : WA G S T th o ex ad M) (hi : Iv S) : Met l yL_balance wsL_balance ({ frames := 8, cells := 2, slots := 12, locals := 135 }) (Cv G M [.ref (ad 0 0), .int n, .int x, .ref (ad 28 0)]) (va_Qi (S := Mp) (fun r M2 => (r = 1 ∧ (¬ (0 ≤ n ∧ n < 5)) ∧ WA G S T th o ex ad M2) ∨ (r = 2 ∧ ((0 ≤ n ∧ n < 5) ∧ ¬ (0 ≤ x ∧ x ≤ 4)) ∧ WA G S T th o ex ad M2) ∨ (r = 0 ∧ ((0 ≤ n ∧ n < 5) ∧ (0 ≤ x ∧ x ≤ 4)) ∧ WA G S T th (S.2 1 (5 * n.toNatClampNeg + x.toNatClampNeg)) ex ad M2)) (Bm G (fun M2 => M2)) (AG G)) (2) (12) (AG G) := by
  refine m_metc (hh := [(0, 9, 12, 13), (0, 9, 16, 15)]) [.ref (ad 0 0), .int n, .int x, .ref (ad 28 0)] [(0, .ref (ad 0 0)), (1, .int n), (2, .int x), (3, .ref (ad 28 0))] (by decide) rfl rfl (Nat.le_of_ble_eq_true rfl) ?_
  intro p e s m below meth c ls hx hb hr hml hown hts hlocks hin hT hC hM hl hS
  have f0 : M (ad 0 0) = some (.inr (5, [.ref (ad 1 0), .ref (ad 3 0), .ref (ad 5 0), .ref (ad 10 0), .int (S.1 5 0)])) := hw.1 0 0 _ rfl
  have fo : M (ad 28 0) = some (.inl (G.2.1 1, 1, .inr (.inl (fun _ => o)))) := hw.1 28 0 _ rfl
  refine lv_aload_n hx hb dL_balance_0 rfl (lv_at hl 3 rfl) ?_
  refine lv_iconst (v := 0) hx hb dL_balance_1 (by decide) ?_
  refine lv_aload_n hx hb dL_balance_2 rfl (lv_at hl 0 rfl) ?_
  refine lv_iload_n hx hb dL_balance_3 rfl (lv_at hl 1 rfl) ?_
  refine lv_iload_n hx hb dL_balance_4 rfl (lv_at hl 2 rfl) ?_
  refine kx_l (vx_runV (As := [.int n, .int x]) (rest := [.int 0, .ref (ad 28 0)]) ⟨hx, hb, hml, hown, hts⟩ (c_X5_balance hnt l G M S T th o ex ad n x hw hi) (cwV 2 hts gL_balance_X5_balance rfl rfl rfl (by decide +kernel) ⟨Nat.le_of_ble_eq_true rfl, Nat.le_of_ble_eq_true rfl⟩) (preV_of hC hS hM f0 rfl) rfl rfl hl.1 rfl (lv_room (Nat.le_of_ble_eq_true rfl)) dL_balance_5 ⟨Nat.le_of_ble_eq_true rfl, Nat.le_of_ble_eq_true rfl⟩) hS (fun E ce q9 H locs hE hM hS h1 h2 h3 => ?_) (fun r5 u5 H locs hp5 hM hS => ?_)
  · rcases hE with ⟨rfl, z9⟩ | ⟨rfl, z9⟩
    · refine vx_catch (own := RL) (name := IO) hown [] ⟨0, 9, 12, 13⟩ [⟨0, 9, 16, 15⟩] (by rw [hT]; rfl) (fun z hz => absurd hz List.not_mem_nil) (by decide) (by decide) (hts (.classLink RL 13 IO) (by decide +kernel)) (xc_use hC (by decide)) h1 h2 h3 ?_
      show W p l e _ s m _ below meth c _ _ _ _ _ (F0 m 12 ls [.ref q9])
      refine lv_astore (lv' := [(4, .ref q9), (0, .ref (ad 0 0)), (1, .int n), (2, .int x), (3, .ref (ad 28 0))]) hx hb dL_balance_12 hl (by decide) rfl (fun ls hl => ?_)
      refine lv_iconst (v := 1) hx hb dL_balance_14 (by decide) ?_
      exact (r_i hx hb hr hlocks hS (v := 1) _ (Or.inl (⟨rfl, z9, hw⟩)) hM (Nat.le_of_ble_eq_true rfl) (Nat.le_of_ble_eq_true rfl) dL_balance_15)
    · refine vx_catch (own := RL) (name := IA) hown [⟨0, 9, 12, 13⟩] ⟨0, 9, 16, 15⟩ [] (by rw [hT]; rfl) (fun z hz => by rw [List.mem_singleton.mp hz]; exact Or.inr ⟨by decide, IO, hts (.classLink RL 13 IO) (by decide +kernel), hC.2.2.2.2.2.1 (IA, IO) (by decide)⟩) (by decide) (by decide) (hts (.classLink RL 15 IA) (by decide +kernel)) (xc_use hC (by decide)) h1 h2 h3 ?_
      show W p l e _ s m _ below meth c _ _ _ _ _ (F0 m 16 ls [.ref q9])
      refine lv_astore (lv' := [(4, .ref q9), (0, .ref (ad 0 0)), (1, .int n), (2, .int x), (3, .ref (ad 28 0))]) hx hb dL_balance_16 hl (by decide) rfl (fun ls hl => ?_)
      refine lv_iconst (v := 2) hx hb dL_balance_18 (by decide) ?_
      exact (r_i hx hb hr hlocks hS (v := 2) _ (Or.inr (Or.inl (⟨rfl, z9, hw⟩))) hM (Nat.le_of_ble_eq_true rfl) (Nat.le_of_ble_eq_true rfl) dL_balance_19)
  obtain ⟨c90, c91, er⟩ := hp5
  subst er
  have hM : Hm G M H := hM
  have hw9 := hw
  refine m_last (a := (ad 28 0)) hx hb hC hM hS fo (vin_of (n := 1) 1 (by decide) (by decide)) dL_balance_8 (fun H locs hM hS => ?_)
  have hM : Hm G (va_up M (ad 28 0) (some (.inl (G.2.1 1, 1, .inr (.inl (vp_updL (fun _ => o) (0 : Int32).toNatClampNeg (S.2 1 (5 * n.toNatClampNeg + x.toNatClampNeg)))))))) H := hM
  have f8_2 : (va_up M (ad 28 0) (some (.inl (G.2.1 1, 1, .inr (.inl (vp_updL (fun _ => o) (0 : Int32).toNatClampNeg (S.2 1 (5 * n.toNatClampNeg + x.toNatClampNeg)))))))) (ad 0 0) = some (.inr (5, [.ref (ad 1 0), .ref (ad 3 0), .ref (ad 5 0), .ref (ad 10 0), .int (S.1 5 0)])) := (up_ne (fun h9 => absurd (Eq.trans (Eq.trans (Eq.symm f0) (congrArg M h9)) fo) (by simp))).trans f0
  have f8_3 : (va_up M (ad 28 0) (some (.inl (G.2.1 1, 1, .inr (.inl (vp_updL (fun _ => o) (0 : Int32).toNatClampNeg (S.2 1 (5 * n.toNatClampNeg + x.toNatClampNeg)))))))) (ad 28 0) = some (.inl (G.2.1 1, 1, .inr (.inl (vp_updL (fun _ => o) (0 : Int32).toNatClampNeg (S.2 1 (5 * n.toNatClampNeg + x.toNatClampNeg)))))) := up_eq
  refine lv_goto (tgt := 20) hx hb dL_balance_9 (by decide) ?_
  refine lv_iconst (v := 0) hx hb dL_balance_20 (by decide) ?_
  have hM := Hm.out (g := fun _ => (S.2 1 (5 * n.toNatClampNeg + x.toNatClampNeg))) hM rfl
  have hwo := w_out hw9 (S.2 1 (5 * n.toNatClampNeg + x.toNatClampNeg))
  exact (r_i hx hb hr hlocks hS (v := 0) _ (Or.inr (Or.inr (⟨rfl, ⟨c90, c91⟩, hwo⟩))) hM (Nat.le_of_ble_eq_true rfl) (Nat.le_of_ble_eq_true rfl) dL_balance_21)
set_option maxHeartbeats 4000000 in
set_option maxRecDepth 100000 in
theorem c_L_toggleHoliday {l : Launch} (hnt : l.stackTraces = false) (l' : Launch) (G : Gx) (M : Mp) (S T : Sd) (th : Int32) (o : Int64) (ex : Nat → Option (Nat × Nat)) (ad : Nat → Nat → Nat) (x : Int32) (hw : WA G S T th o ex ad M) (hi : Iv S) : Met l yL_toggleHoliday wsL_toggleHoliday ({ frames := 8, cells := 2, slots := 12, locals := 133 }) (Cv G M [.ref (ad 0 0), .int x, .ref (ad 28 0)]) (va_Qi (S := Mp) (fun r M2 => (r = 1 ∧ (¬ (1 ≤ x ∧ x ≤ 1000)) ∧ WA G S T th o ex ad M2) ∨ (r = 2 ∧ ((1 ≤ x ∧ x ≤ 1000) ∧ ¬ S.1 0 0 < x) ∧ WA G S T th o ex ad M2) ∨ (r = 0 ∧ ((1 ≤ x ∧ x ≤ 1000) ∧ S.1 0 0 < x) ∧ WA G (u2 S.1 4 x.toNatClampNeg (tg (S.1 4 x.toNatClampNeg)), S.2) T th (if tg (S.1 4 x.toNatClampNeg) = 0 then 0 else 1) ex ad M2)) (Bm G (fun M2 => M2)) (AG G)) (2) (12) (AG G) := by
  refine m_metc (hh := [(0, 16, 19, 15), (0, 16, 22, 24)]) [.ref (ad 0 0), .int x, .ref (ad 28 0)] [(0, .ref (ad 0 0)), (1, .int x), (2, .ref (ad 28 0))] (by decide) rfl rfl (Nat.le_of_ble_eq_true rfl) ?_
  intro p e s m below meth c ls hx hb hr hml hown hts hlocks hin hT hC hM hl hS
  have f0 : M (ad 0 0) = some (.inr (5, [.ref (ad 1 0), .ref (ad 3 0), .ref (ad 5 0), .ref (ad 10 0), .int (S.1 5 0)])) := hw.1 0 0 _ rfl
  have fo : M (ad 28 0) = some (.inl (G.2.1 1, 1, .inr (.inl (fun _ => o)))) := hw.1 28 0 _ rfl
  refine lv_aload_n hx hb dL_toggleHoliday_0 rfl (lv_at hl 2 rfl) ?_
  refine lv_iconst (v := 0) hx hb dL_toggleHoliday_1 (by decide) ?_
  refine lv_aload_n hx hb dL_toggleHoliday_2 rfl (lv_at hl 0 rfl) ?_
  refine lv_iload_n hx hb dL_toggleHoliday_3 rfl (lv_at hl 1 rfl) ?_
  refine kx_i (vx_runV (As := [.int x]) (rest := [.int 0, .ref (ad 28 0)]) ⟨hx, hb, hml, hown, hts⟩ (c_X5_toggleHoliday hnt l G M S T th o ex ad x hw hi) (cwV 1 hts gL_toggleHoliday_X5_toggleHoliday rfl rfl rfl (by decide +kernel) ⟨Nat.le_of_ble_eq_true rfl, Nat.le_of_ble_eq_true rfl⟩) (preV_of hC hS hM f0 rfl) rfl rfl hl.1 rfl (lv_room (Nat.le_of_ble_eq_true rfl)) dL_toggleHoliday_4 ⟨Nat.le_of_ble_eq_true rfl, Nat.le_of_ble_eq_true rfl⟩) hS (fun E ce q9 H locs hE hM hS h1 h2 h3 => ?_) (fun r4 u4 H locs hp4 hM hS => ?_)
  · rcases hE with ⟨rfl, z9⟩ | ⟨rfl, z9⟩
    · refine vx_catch (own := RL) (name := IA) hown [] ⟨0, 16, 19, 15⟩ [⟨0, 16, 22, 24⟩] (by rw [hT]; rfl) (fun z hz => absurd hz List.not_mem_nil) (by decide) (by decide) (hts (.classLink RL 15 IA) (by decide +kernel)) (xc_use hC (by decide)) h1 h2 h3 ?_
      show W p l e _ s m _ below meth c _ _ _ _ _ (F0 m 19 ls [.ref q9])
      refine lv_astore_n (lv' := [(3, .ref q9), (0, .ref (ad 0 0)), (1, .int x), (2, .ref (ad 28 0))]) hx hb dL_toggleHoliday_19 rfl hl (by decide) rfl (fun ls hl => ?_)
      refine lv_iconst (v := 1) hx hb dL_toggleHoliday_20 (by decide) ?_
      exact (r_i hx hb hr hlocks hS (v := 1) _ (Or.inl (⟨rfl, z9, hw⟩)) hM (Nat.le_of_ble_eq_true rfl) (Nat.le_of_ble_eq_true rfl) dL_toggleHoliday_21)
    · refine vx_catch (own := RL) (name := IS) hown [⟨0, 16, 19, 15⟩] ⟨0, 16, 22, 24⟩ [] (by rw [hT]; rfl) (fun z hz => by rw [List.mem_singleton.mp hz]; exact Or.inr ⟨by decide, IA, hts (.classLink RL 15 IA) (by decide +kernel), hC.2.2.2.2.2.1 (IS, IA) (by decide)⟩) (by decide) (by decide) (hts (.classLink RL 24 IS) (by decide +kernel)) (xc_use hC (by decide)) h1 h2 h3 ?_
      show W p l e _ s m _ below meth c _ _ _ _ _ (F0 m 22 ls [.ref q9])
      refine lv_astore_n (lv' := [(3, .ref q9), (0, .ref (ad 0 0)), (1, .int x), (2, .ref (ad 28 0))]) hx hb dL_toggleHoliday_22 rfl hl (by decide) rfl (fun ls hl => ?_)
      refine lv_iconst (v := 2) hx hb dL_toggleHoliday_23 (by decide) ?_
      exact (r_i hx hb hr hlocks hS (v := 2) _ (Or.inr (Or.inl (⟨rfl, z9, hw⟩))) hM (Nat.le_of_ble_eq_true rfl) (Nat.le_of_ble_eq_true rfl) dL_toggleHoliday_24)
  obtain ⟨c90, c91, er, hw9⟩ := hp4
  subst er
  have hM : Hm G u4 H := hM
  have go : u4 (ad 28 0) = some (.inl (G.2.1 1, 1, .inr (.inl (fun _ => o)))) := hw9.1 28 0 _ rfl
  refine lv_if_eq (tgt := 14) hx hb dL_toggleHoliday_7 (by decide) (fun c_7 => ?_) (fun c_7 => ?_)
  · refine lv_lconst (v := 0) hx hb dL_toggleHoliday_14 (by decide) ?_
    refine m_last (a := (ad 28 0)) hx hb hC hM hS go (vin_of (n := 1) 1 (by decide) (by decide)) dL_toggleHoliday_15 (fun H locs hM hS => ?_)
    have hM : Hm G (va_up u4 (ad 28 0) (some (.inl (G.2.1 1, 1, .inr (.inl (vp_updL (fun _ => o) (0 : Int32).toNatClampNeg 0)))))) H := hM
    have f15_3 : (va_up u4 (ad 28 0) (some (.inl (G.2.1 1, 1, .inr (.inl (vp_updL (fun _ => o) (0 : Int32).toNatClampNeg 0)))))) (ad 28 0) = some (.inl (G.2.1 1, 1, .inr (.inl (vp_updL (fun _ => o) (0 : Int32).toNatClampNeg 0)))) := up_eq
    refine lv_goto (tgt := 25) hx hb dL_toggleHoliday_16 (by decide) ?_
    refine lv_iconst (v := 0) hx hb dL_toggleHoliday_25 (by decide) ?_
    have hM := Hm.out (g := fun _ => 0) hM rfl
    have hwo := w_out hw9 0
    exact (r_i hx hb hr hlocks hS (v := 0) _ (Or.inr (Or.inr (⟨rfl, ⟨c90, c91⟩, (by rw [if_pos c_7]; exact hwo)⟩))) hM (Nat.le_of_ble_eq_true rfl) (Nat.le_of_ble_eq_true rfl) dL_toggleHoliday_26)
  · refine lv_lconst (v := 1) hx hb dL_toggleHoliday_10 (by decide) ?_
    refine lv_goto (tgt := 15) hx hb dL_toggleHoliday_11 (by decide) ?_
    refine m_last (a := (ad 28 0)) hx hb hC hM hS go (vin_of (n := 1) 1 (by decide) (by decide)) dL_toggleHoliday_15 (fun H locs hM hS => ?_)
    have hM : Hm G (va_up u4 (ad 28 0) (some (.inl (G.2.1 1, 1, .inr (.inl (vp_updL (fun _ => o) (0 : Int32).toNatClampNeg 1)))))) H := hM
    have f15_5 : (va_up u4 (ad 28 0) (some (.inl (G.2.1 1, 1, .inr (.inl (vp_updL (fun _ => o) (0 : Int32).toNatClampNeg 1)))))) (ad 28 0) = some (.inl (G.2.1 1, 1, .inr (.inl (vp_updL (fun _ => o) (0 : Int32).toNatClampNeg 1)))) := up_eq
    refine lv_goto (tgt := 25) hx hb dL_toggleHoliday_16 (by decide) ?_
    refine lv_iconst (v := 0) hx hb dL_toggleHoliday_25 (by decide) ?_
    have hM := Hm.out (g := fun _ => 1) hM rfl
    have hwo := w_out hw9 1
    exact (r_i hx hb hr hlocks hS (v := 0) _ (Or.inr (Or.inr (⟨rfl, ⟨c90, c91⟩, (by rw [if_neg c_7]; exact hwo)⟩))) hM (Nat.le_of_ble_eq_true rfl) (Nat.le_of_ble_eq_true rfl) dL_toggleHoliday_26)
set_option maxHeartbeats 4000000 in
set_option maxRecDepth 100000 in
theorem c_L_left {l : Launch} (hnt : l.stackTraces = false) (l' : Launch) (G : Gx) (M : Mp) (S T : Sd) (th : Int32) (o : Int64) (ex : Nat → Option (Nat × Nat)) (ad : Nat → Nat → Nat) (n : Int32) (hw : WA G S T th o ex ad M) (hi : Iv S) : Met l yL_left wsL_left ({ frames := 8, cells := 1, slots := 6, locals := 133 }) (Cv G M [.ref (ad 0 0), .int n, .ref (ad 28 0)]) (va_Qi (S := Mp) (fun r M2 => (r = 1 ∧ (¬ (0 ≤ n ∧ n.toNatClampNeg < ndl S)) ∧ WA G S T th o ex ad M2) ∨ (r = 0 ∧ ((0 ≤ n ∧ n.toNatClampNeg < ndl S)) ∧ WA G S T th ((S.1 9 n.toNatClampNeg).toInt64) ex ad M2)) (Bm G (fun M2 => M2)) (AG G)) (1) (6) (AG G) := by
  refine m_metc (hh := [(0, 9, 12, 13)]) [.ref (ad 0 0), .int n, .ref (ad 28 0)] [(0, .ref (ad 0 0)), (1, .int n), (2, .ref (ad 28 0))] (by decide) rfl rfl (Nat.le_of_ble_eq_true rfl) ?_
  intro p e s m below meth c ls hx hb hr hml hown hts hlocks hin hT hC hM hl hS
  have f0 : M (ad 0 0) = some (.inr (5, [.ref (ad 1 0), .ref (ad 3 0), .ref (ad 5 0), .ref (ad 10 0), .int (S.1 5 0)])) := hw.1 0 0 _ rfl
  have fo : M (ad 28 0) = some (.inl (G.2.1 1, 1, .inr (.inl (fun _ => o)))) := hw.1 28 0 _ rfl
  refine lv_aload_n hx hb dL_left_0 rfl (lv_at hl 2 rfl) ?_
  refine lv_iconst (v := 0) hx hb dL_left_1 (by decide) ?_
  refine lv_aload_n hx hb dL_left_2 rfl (lv_at hl 0 rfl) ?_
  refine lv_iload_n hx hb dL_left_3 rfl (lv_at hl 1 rfl) ?_
  refine kx_i (vx_runV (As := [.int n]) (rest := [.int 0, .ref (ad 28 0)]) ⟨hx, hb, hml, hown, hts⟩ (c_X5_left hnt l G M S T th o ex ad n hw hi) (cwV 1 hts gL_left_X5_left rfl rfl rfl (by decide +kernel) ⟨Nat.le_of_ble_eq_true rfl, Nat.le_of_ble_eq_true rfl⟩) (preV_of hC hS hM f0 rfl) rfl rfl hl.1 rfl (lv_room (Nat.le_of_ble_eq_true rfl)) dL_left_4 ⟨Nat.le_of_ble_eq_true rfl, Nat.le_of_ble_eq_true rfl⟩) hS (fun E ce q9 H locs hE hM hS h1 h2 h3 => ?_) (fun r4 u4 H locs hp4 hM hS => ?_)
  · obtain ⟨rfl, z9⟩ := hE
    · refine vx_catch (own := RL) (name := IO) hown [] ⟨0, 9, 12, 13⟩ [] (by rw [hT]; rfl) (fun z hz => absurd hz List.not_mem_nil) (by decide) (by decide) (hts (.classLink RL 13 IO) (by decide +kernel)) (xc_use hC (by decide)) h1 h2 h3 ?_
      show W p l e _ s m _ below meth c _ _ _ _ _ (F0 m 12 ls [.ref q9])
      refine lv_astore_n (lv' := [(3, .ref q9), (0, .ref (ad 0 0)), (1, .int n), (2, .ref (ad 28 0))]) hx hb dL_left_12 rfl hl (by decide) rfl (fun ls hl => ?_)
      refine lv_iconst (v := 1) hx hb dL_left_13 (by decide) ?_
      exact (r_i hx hb hr hlocks hS (v := 1) _ (Or.inl (⟨rfl, z9, hw⟩)) hM (Nat.le_of_ble_eq_true rfl) (Nat.le_of_ble_eq_true rfl) dL_left_14)
  obtain ⟨c90, er⟩ := hp4
  subst er
  have hM : Hm G M H := hM
  have hw9 := hw
  refine lv_i2l hx hb dL_left_7 rfl ?_
  refine m_last (a := (ad 28 0)) hx hb hC hM hS fo (vin_of (n := 1) 1 (by decide) (by decide)) dL_left_8 (fun H locs hM hS => ?_)
  have hM : Hm G (va_up M (ad 28 0) (some (.inl (G.2.1 1, 1, .inr (.inl (vp_updL (fun _ => o) (0 : Int32).toNatClampNeg (((S.1 9 n.toNatClampNeg)).toInt64))))))) H := hM
  have f8_2 : (va_up M (ad 28 0) (some (.inl (G.2.1 1, 1, .inr (.inl (vp_updL (fun _ => o) (0 : Int32).toNatClampNeg (((S.1 9 n.toNatClampNeg)).toInt64))))))) (ad 0 0) = some (.inr (5, [.ref (ad 1 0), .ref (ad 3 0), .ref (ad 5 0), .ref (ad 10 0), .int (S.1 5 0)])) := (up_ne (fun h9 => absurd (Eq.trans (Eq.trans (Eq.symm f0) (congrArg M h9)) fo) (by simp))).trans f0
  have f8_3 : (va_up M (ad 28 0) (some (.inl (G.2.1 1, 1, .inr (.inl (vp_updL (fun _ => o) (0 : Int32).toNatClampNeg (((S.1 9 n.toNatClampNeg)).toInt64))))))) (ad 28 0) = some (.inl (G.2.1 1, 1, .inr (.inl (vp_updL (fun _ => o) (0 : Int32).toNatClampNeg (((S.1 9 n.toNatClampNeg)).toInt64))))) := up_eq
  refine lv_goto (tgt := 15) hx hb dL_left_9 (by decide) ?_
  refine lv_iconst (v := 0) hx hb dL_left_15 (by decide) ?_
  have hM := Hm.out (g := fun _ => ((S.1 9 n.toNatClampNeg)).toInt64) hM rfl
  have hwo := w_out hw9 (((S.1 9 n.toNatClampNeg)).toInt64)
  exact (r_i hx hb hr hlocks hS (v := 0) _ (Or.inr (⟨rfl, c90, hwo⟩)) hM (Nat.le_of_ble_eq_true rfl) (Nat.le_of_ble_eq_true rfl) dL_left_16)
set_option maxHeartbeats 4000000 in
set_option maxRecDepth 100000 in
theorem c_L_rate {l : Launch} (hnt : l.stackTraces = false) (l' : Launch) (G : Gx) (M : Mp) (S T : Sd) (th : Int32) (o : Int64) (ex : Nat → Option (Nat × Nat)) (ad : Nat → Nat → Nat) (n : Int32) (hw : WA G S T th o ex ad M) (hi : Iv S) : Met l yL_rate wsL_rate ({ frames := 8, cells := 1, slots := 6, locals := 133 }) (Cv G M [.ref (ad 0 0), .int n, .ref (ad 28 0)]) (va_Qi (S := Mp) (fun r M2 => (r = 1 ∧ (¬ (0 ≤ n ∧ n.toNatClampNeg < ndl S)) ∧ WA G S T th o ex ad M2) ∨ (r = 0 ∧ ((0 ≤ n ∧ n.toNatClampNeg < ndl S)) ∧ WA G S T th ((S.1 10 n.toNatClampNeg).toInt64) ex ad M2)) (Bm G (fun M2 => M2)) (AG G)) (1) (6) (AG G) := by
  refine m_metc (hh := [(0, 9, 12, 13)]) [.ref (ad 0 0), .int n, .ref (ad 28 0)] [(0, .ref (ad 0 0)), (1, .int n), (2, .ref (ad 28 0))] (by decide) rfl rfl (Nat.le_of_ble_eq_true rfl) ?_
  intro p e s m below meth c ls hx hb hr hml hown hts hlocks hin hT hC hM hl hS
  have f0 : M (ad 0 0) = some (.inr (5, [.ref (ad 1 0), .ref (ad 3 0), .ref (ad 5 0), .ref (ad 10 0), .int (S.1 5 0)])) := hw.1 0 0 _ rfl
  have fo : M (ad 28 0) = some (.inl (G.2.1 1, 1, .inr (.inl (fun _ => o)))) := hw.1 28 0 _ rfl
  refine lv_aload_n hx hb dL_rate_0 rfl (lv_at hl 2 rfl) ?_
  refine lv_iconst (v := 0) hx hb dL_rate_1 (by decide) ?_
  refine lv_aload_n hx hb dL_rate_2 rfl (lv_at hl 0 rfl) ?_
  refine lv_iload_n hx hb dL_rate_3 rfl (lv_at hl 1 rfl) ?_
  refine kx_i (vx_runV (As := [.int n]) (rest := [.int 0, .ref (ad 28 0)]) ⟨hx, hb, hml, hown, hts⟩ (c_X5_rate hnt l G M S T th o ex ad n hw hi) (cwV 1 hts gL_rate_X5_rate rfl rfl rfl (by decide +kernel) ⟨Nat.le_of_ble_eq_true rfl, Nat.le_of_ble_eq_true rfl⟩) (preV_of hC hS hM f0 rfl) rfl rfl hl.1 rfl (lv_room (Nat.le_of_ble_eq_true rfl)) dL_rate_4 ⟨Nat.le_of_ble_eq_true rfl, Nat.le_of_ble_eq_true rfl⟩) hS (fun E ce q9 H locs hE hM hS h1 h2 h3 => ?_) (fun r4 u4 H locs hp4 hM hS => ?_)
  · obtain ⟨rfl, z9⟩ := hE
    · refine vx_catch (own := RL) (name := IO) hown [] ⟨0, 9, 12, 13⟩ [] (by rw [hT]; rfl) (fun z hz => absurd hz List.not_mem_nil) (by decide) (by decide) (hts (.classLink RL 13 IO) (by decide +kernel)) (xc_use hC (by decide)) h1 h2 h3 ?_
      show W p l e _ s m _ below meth c _ _ _ _ _ (F0 m 12 ls [.ref q9])
      refine lv_astore_n (lv' := [(3, .ref q9), (0, .ref (ad 0 0)), (1, .int n), (2, .ref (ad 28 0))]) hx hb dL_rate_12 rfl hl (by decide) rfl (fun ls hl => ?_)
      refine lv_iconst (v := 1) hx hb dL_rate_13 (by decide) ?_
      exact (r_i hx hb hr hlocks hS (v := 1) _ (Or.inl (⟨rfl, z9, hw⟩)) hM (Nat.le_of_ble_eq_true rfl) (Nat.le_of_ble_eq_true rfl) dL_rate_14)
  obtain ⟨c90, er⟩ := hp4
  subst er
  have hM : Hm G M H := hM
  have hw9 := hw
  refine lv_i2l hx hb dL_rate_7 rfl ?_
  refine m_last (a := (ad 28 0)) hx hb hC hM hS fo (vin_of (n := 1) 1 (by decide) (by decide)) dL_rate_8 (fun H locs hM hS => ?_)
  have hM : Hm G (va_up M (ad 28 0) (some (.inl (G.2.1 1, 1, .inr (.inl (vp_updL (fun _ => o) (0 : Int32).toNatClampNeg (((S.1 10 n.toNatClampNeg)).toInt64))))))) H := hM
  have f8_2 : (va_up M (ad 28 0) (some (.inl (G.2.1 1, 1, .inr (.inl (vp_updL (fun _ => o) (0 : Int32).toNatClampNeg (((S.1 10 n.toNatClampNeg)).toInt64))))))) (ad 0 0) = some (.inr (5, [.ref (ad 1 0), .ref (ad 3 0), .ref (ad 5 0), .ref (ad 10 0), .int (S.1 5 0)])) := (up_ne (fun h9 => absurd (Eq.trans (Eq.trans (Eq.symm f0) (congrArg M h9)) fo) (by simp))).trans f0
  have f8_3 : (va_up M (ad 28 0) (some (.inl (G.2.1 1, 1, .inr (.inl (vp_updL (fun _ => o) (0 : Int32).toNatClampNeg (((S.1 10 n.toNatClampNeg)).toInt64))))))) (ad 28 0) = some (.inl (G.2.1 1, 1, .inr (.inl (vp_updL (fun _ => o) (0 : Int32).toNatClampNeg (((S.1 10 n.toNatClampNeg)).toInt64))))) := up_eq
  refine lv_goto (tgt := 15) hx hb dL_rate_9 (by decide) ?_
  refine lv_iconst (v := 0) hx hb dL_rate_15 (by decide) ?_
  have hM := Hm.out (g := fun _ => ((S.1 10 n.toNatClampNeg)).toInt64) hM rfl
  have hwo := w_out hw9 (((S.1 10 n.toNatClampNeg)).toInt64)
  exact (r_i hx hb hr hlocks hS (v := 0) _ (Or.inr (⟨rfl, c90, hwo⟩)) hM (Nat.le_of_ble_eq_true rfl) (Nat.le_of_ble_eq_true rfl) dL_rate_16)
set_option maxHeartbeats 4000000 in
set_option maxRecDepth 100000 in
theorem c_L_window {l : Launch} (hnt : l.stackTraces = false) (l' : Launch) (G : Gx) (M : Mp) (S T : Sd) (th : Int32) (o : Int64) (ex : Nat → Option (Nat × Nat)) (ad : Nat → Nat → Nat) (n : Int32) (hw : WA G S T th o ex ad M) (hi : Iv S) : Met l yL_window wsL_window ({ frames := 8, cells := 1, slots := 6, locals := 134 }) (Cv G M [.ref (ad 0 0), .int n, .ref (ad 28 0)]) (va_Qi (S := Mp) (fun r M2 => (r = 1 ∧ (¬ (0 ≤ n ∧ n.toNatClampNeg < ndl S)) ∧ WA G S T th o ex ad M2) ∨ (r = 0 ∧ ((0 ≤ n ∧ n.toNatClampNeg < ndl S)) ∧ WA G S T th ((10000 * S.1 11 n.toNatClampNeg + S.1 12 n.toNatClampNeg).toInt64) ex ad M2)) (Bm G (fun M2 => M2)) (AG G)) (1) (6) (AG G) := by
  refine m_metc (hh := [(0, 9, 12, 13)]) [.ref (ad 0 0), .int n, .ref (ad 28 0)] [(0, .ref (ad 0 0)), (1, .int n), (2, .ref (ad 28 0))] (by decide) rfl rfl (Nat.le_of_ble_eq_true rfl) ?_
  intro p e s m below meth c ls hx hb hr hml hown hts hlocks hin hT hC hM hl hS
  have f0 : M (ad 0 0) = some (.inr (5, [.ref (ad 1 0), .ref (ad 3 0), .ref (ad 5 0), .ref (ad 10 0), .int (S.1 5 0)])) := hw.1 0 0 _ rfl
  have fo : M (ad 28 0) = some (.inl (G.2.1 1, 1, .inr (.inl (fun _ => o)))) := hw.1 28 0 _ rfl
  refine lv_aload_n hx hb dL_window_0 rfl (lv_at hl 2 rfl) ?_
  refine lv_iconst (v := 0) hx hb dL_window_1 (by decide) ?_
  refine lv_aload_n hx hb dL_window_2 rfl (lv_at hl 0 rfl) ?_
  refine lv_iload_n hx hb dL_window_3 rfl (lv_at hl 1 rfl) ?_
  refine kx_i (vx_runV (As := [.int n]) (rest := [.int 0, .ref (ad 28 0)]) ⟨hx, hb, hml, hown, hts⟩ (c_X5_window hnt l G M S T th o ex ad n hw hi) (cwV 1 hts gL_window_X5_window rfl rfl rfl (by decide +kernel) ⟨Nat.le_of_ble_eq_true rfl, Nat.le_of_ble_eq_true rfl⟩) (preV_of hC hS hM f0 rfl) rfl rfl hl.1 rfl (lv_room (Nat.le_of_ble_eq_true rfl)) dL_window_4 ⟨Nat.le_of_ble_eq_true rfl, Nat.le_of_ble_eq_true rfl⟩) hS (fun E ce q9 H locs hE hM hS h1 h2 h3 => ?_) (fun r4 u4 H locs hp4 hM hS => ?_)
  · obtain ⟨rfl, z9⟩ := hE
    · refine vx_catch (own := RL) (name := IO) hown [] ⟨0, 9, 12, 13⟩ [] (by rw [hT]; rfl) (fun z hz => absurd hz List.not_mem_nil) (by decide) (by decide) (hts (.classLink RL 13 IO) (by decide +kernel)) (xc_use hC (by decide)) h1 h2 h3 ?_
      show W p l e _ s m _ below meth c _ _ _ _ _ (F0 m 12 ls [.ref q9])
      refine lv_astore_n (lv' := [(3, .ref q9), (0, .ref (ad 0 0)), (1, .int n), (2, .ref (ad 28 0))]) hx hb dL_window_12 rfl hl (by decide) rfl (fun ls hl => ?_)
      refine lv_iconst (v := 1) hx hb dL_window_13 (by decide) ?_
      exact (r_i hx hb hr hlocks hS (v := 1) _ (Or.inl (⟨rfl, z9, hw⟩)) hM (Nat.le_of_ble_eq_true rfl) (Nat.le_of_ble_eq_true rfl) dL_window_14)
  obtain ⟨c90, er⟩ := hp4
  subst er
  have hM : Hm G M H := hM
  have hw9 := hw
  refine lv_i2l hx hb dL_window_7 rfl ?_
  refine m_last (a := (ad 28 0)) hx hb hC hM hS fo (vin_of (n := 1) 1 (by decide) (by decide)) dL_window_8 (fun H locs hM hS => ?_)
  have hM : Hm G (va_up M (ad 28 0) (some (.inl (G.2.1 1, 1, .inr (.inl (vp_updL (fun _ => o) (0 : Int32).toNatClampNeg (((10000 * S.1 11 n.toNatClampNeg + S.1 12 n.toNatClampNeg)).toInt64))))))) H := hM
  have f8_2 : (va_up M (ad 28 0) (some (.inl (G.2.1 1, 1, .inr (.inl (vp_updL (fun _ => o) (0 : Int32).toNatClampNeg (((10000 * S.1 11 n.toNatClampNeg + S.1 12 n.toNatClampNeg)).toInt64))))))) (ad 0 0) = some (.inr (5, [.ref (ad 1 0), .ref (ad 3 0), .ref (ad 5 0), .ref (ad 10 0), .int (S.1 5 0)])) := (up_ne (fun h9 => absurd (Eq.trans (Eq.trans (Eq.symm f0) (congrArg M h9)) fo) (by simp))).trans f0
  have f8_3 : (va_up M (ad 28 0) (some (.inl (G.2.1 1, 1, .inr (.inl (vp_updL (fun _ => o) (0 : Int32).toNatClampNeg (((10000 * S.1 11 n.toNatClampNeg + S.1 12 n.toNatClampNeg)).toInt64))))))) (ad 28 0) = some (.inl (G.2.1 1, 1, .inr (.inl (vp_updL (fun _ => o) (0 : Int32).toNatClampNeg (((10000 * S.1 11 n.toNatClampNeg + S.1 12 n.toNatClampNeg)).toInt64))))) := up_eq
  refine lv_goto (tgt := 15) hx hb dL_window_9 (by decide) ?_
  refine lv_iconst (v := 0) hx hb dL_window_15 (by decide) ?_
  have hM := Hm.out (g := fun _ => ((10000 * S.1 11 n.toNatClampNeg + S.1 12 n.toNatClampNeg)).toInt64) hM rfl
  have hwo := w_out hw9 (((10000 * S.1 11 n.toNatClampNeg + S.1 12 n.toNatClampNeg)).toInt64)
  exact (r_i hx hb hr hlocks hS (v := 0) _ (Or.inr (⟨rfl, c90, hwo⟩)) hM (Nat.le_of_ble_eq_true rfl) (Nat.le_of_ble_eq_true rfl) dL_window_16)
set_option maxHeartbeats 4000000 in
set_option maxRecDepth 100000 in
theorem c_L_gain {l : Launch} (hnt : l.stackTraces = false) (l' : Launch) (G : Gx) (M : Mp) (S T : Sd) (th : Int32) (o : Int64) (ex : Nat → Option (Nat × Nat)) (ad : Nat → Nat → Nat) (n : Int32) (hw : WA G S T th o ex ad M) (hi : Iv S) : Met l yL_gain wsL_gain ({ frames := 8, cells := 1, slots := 6, locals := 133 }) (Cv G M [.ref (ad 0 0), .int n, .ref (ad 28 0)]) (va_Qi (S := Mp) (fun r M2 => (r = 1 ∧ (¬ (0 ≤ n ∧ n.toNatClampNeg < ndl S)) ∧ WA G S T th o ex ad M2) ∨ (r = 0 ∧ ((0 ≤ n ∧ n.toNatClampNeg < ndl S)) ∧ WA G S T th (mg S n.toNatClampNeg) ex ad M2)) (Bm G (fun M2 => M2)) (AG G)) (1) (6) (AG G) := by
  refine m_metc (hh := [(0, 8, 11, 13)]) [.ref (ad 0 0), .int n, .ref (ad 28 0)] [(0, .ref (ad 0 0)), (1, .int n), (2, .ref (ad 28 0))] (by decide) rfl rfl (Nat.le_of_ble_eq_true rfl) ?_
  intro p e s m below meth c ls hx hb hr hml hown hts hlocks hin hT hC hM hl hS
  have f0 : M (ad 0 0) = some (.inr (5, [.ref (ad 1 0), .ref (ad 3 0), .ref (ad 5 0), .ref (ad 10 0), .int (S.1 5 0)])) := hw.1 0 0 _ rfl
  have fo : M (ad 28 0) = some (.inl (G.2.1 1, 1, .inr (.inl (fun _ => o)))) := hw.1 28 0 _ rfl
  refine lv_aload_n hx hb dL_gain_0 rfl (lv_at hl 2 rfl) ?_
  refine lv_iconst (v := 0) hx hb dL_gain_1 (by decide) ?_
  refine lv_aload_n hx hb dL_gain_2 rfl (lv_at hl 0 rfl) ?_
  refine lv_iload_n hx hb dL_gain_3 rfl (lv_at hl 1 rfl) ?_
  refine kx_l (vx_runV (As := [.int n]) (rest := [.int 0, .ref (ad 28 0)]) ⟨hx, hb, hml, hown, hts⟩ (c_X5_gain hnt l G M S T th o ex ad n hw hi) (cwV 1 hts gL_gain_X5_gain rfl rfl rfl (by decide +kernel) ⟨Nat.le_of_ble_eq_true rfl, Nat.le_of_ble_eq_true rfl⟩) (preV_of hC hS hM f0 rfl) rfl rfl hl.1 rfl (lv_room (Nat.le_of_ble_eq_true rfl)) dL_gain_4 ⟨Nat.le_of_ble_eq_true rfl, Nat.le_of_ble_eq_true rfl⟩) hS (fun E ce q9 H locs hE hM hS h1 h2 h3 => ?_) (fun r4 u4 H locs hp4 hM hS => ?_)
  · obtain ⟨rfl, z9⟩ := hE
    · refine vx_catch (own := RL) (name := IO) hown [] ⟨0, 8, 11, 13⟩ [] (by rw [hT]; rfl) (fun z hz => absurd hz List.not_mem_nil) (by decide) (by decide) (hts (.classLink RL 13 IO) (by decide +kernel)) (xc_use hC (by decide)) h1 h2 h3 ?_
      show W p l e _ s m _ below meth c _ _ _ _ _ (F0 m 11 ls [.ref q9])
      refine lv_astore_n (lv' := [(3, .ref q9), (0, .ref (ad 0 0)), (1, .int n), (2, .ref (ad 28 0))]) hx hb dL_gain_11 rfl hl (by decide) rfl (fun ls hl => ?_)
      refine lv_iconst (v := 1) hx hb dL_gain_12 (by decide) ?_
      exact (r_i hx hb hr hlocks hS (v := 1) _ (Or.inl (⟨rfl, z9, hw⟩)) hM (Nat.le_of_ble_eq_true rfl) (Nat.le_of_ble_eq_true rfl) dL_gain_13)
  obtain ⟨c90, er⟩ := hp4
  subst er
  have hM : Hm G M H := hM
  have hw9 := hw
  refine m_last (a := (ad 28 0)) hx hb hC hM hS fo (vin_of (n := 1) 1 (by decide) (by decide)) dL_gain_7 (fun H locs hM hS => ?_)
  have hM : Hm G (va_up M (ad 28 0) (some (.inl (G.2.1 1, 1, .inr (.inl (vp_updL (fun _ => o) (0 : Int32).toNatClampNeg (mg S n.toNatClampNeg))))))) H := hM
  have f7_2 : (va_up M (ad 28 0) (some (.inl (G.2.1 1, 1, .inr (.inl (vp_updL (fun _ => o) (0 : Int32).toNatClampNeg (mg S n.toNatClampNeg))))))) (ad 0 0) = some (.inr (5, [.ref (ad 1 0), .ref (ad 3 0), .ref (ad 5 0), .ref (ad 10 0), .int (S.1 5 0)])) := (up_ne (fun h9 => absurd (Eq.trans (Eq.trans (Eq.symm f0) (congrArg M h9)) fo) (by simp))).trans f0
  have f7_3 : (va_up M (ad 28 0) (some (.inl (G.2.1 1, 1, .inr (.inl (vp_updL (fun _ => o) (0 : Int32).toNatClampNeg (mg S n.toNatClampNeg))))))) (ad 28 0) = some (.inl (G.2.1 1, 1, .inr (.inl (vp_updL (fun _ => o) (0 : Int32).toNatClampNeg (mg S n.toNatClampNeg))))) := up_eq
  refine lv_goto (tgt := 14) hx hb dL_gain_8 (by decide) ?_
  refine lv_iconst (v := 0) hx hb dL_gain_14 (by decide) ?_
  have hM := Hm.out (g := fun _ => (mg S n.toNatClampNeg)) hM rfl
  have hwo := w_out hw9 (mg S n.toNatClampNeg)
  exact (r_i hx hb hr hlocks hS (v := 0) _ (Or.inr (⟨rfl, c90, hwo⟩)) hM (Nat.le_of_ble_eq_true rfl) (Nat.le_of_ble_eq_true rfl) dL_gain_15)
set_option maxHeartbeats 4000000 in
set_option maxRecDepth 100000 in
theorem c_L_exposure {l : Launch} (hnt : l.stackTraces = false) (l' : Launch) (G : Gx) (M : Mp) (S T : Sd) (th : Int32) (o : Int64) (ex : Nat → Option (Nat × Nat)) (ad : Nat → Nat → Nat) (n : Int32) (hw : WA G S T th o ex ad M) (hi : Iv S) : Met l yL_exposure wsL_exposure ({ frames := 8, cells := 1, slots := 6, locals := 160 }) (Cv G M [.ref (ad 0 0), .int n, .ref (ad 28 0)]) (va_Qi (S := Mp) (fun r M2 => (r = 1 ∧ (¬ (0 ≤ n ∧ n < 5)) ∧ WA G S T th o ex ad M2) ∨ (r = 0 ∧ ((0 ≤ n ∧ n < 5)) ∧ WA G S T th (exs S n.toNatClampNeg) ex ad M2)) (Bm G (fun M2 => M2)) (AG G)) (1) (6) (AG G) := by
  refine m_metc (hh := [(0, 8, 11, 13)]) [.ref (ad 0 0), .int n, .ref (ad 28 0)] [(0, .ref (ad 0 0)), (1, .int n), (2, .ref (ad 28 0))] (by decide) rfl rfl (Nat.le_of_ble_eq_true rfl) ?_
  intro p e s m below meth c ls hx hb hr hml hown hts hlocks hin hT hC hM hl hS
  have f0 : M (ad 0 0) = some (.inr (5, [.ref (ad 1 0), .ref (ad 3 0), .ref (ad 5 0), .ref (ad 10 0), .int (S.1 5 0)])) := hw.1 0 0 _ rfl
  have fo : M (ad 28 0) = some (.inl (G.2.1 1, 1, .inr (.inl (fun _ => o)))) := hw.1 28 0 _ rfl
  refine lv_aload_n hx hb dL_exposure_0 rfl (lv_at hl 2 rfl) ?_
  refine lv_iconst (v := 0) hx hb dL_exposure_1 (by decide) ?_
  refine lv_aload_n hx hb dL_exposure_2 rfl (lv_at hl 0 rfl) ?_
  refine lv_iload_n hx hb dL_exposure_3 rfl (lv_at hl 1 rfl) ?_
  refine kx_l (vx_runV (As := [.int n]) (rest := [.int 0, .ref (ad 28 0)]) ⟨hx, hb, hml, hown, hts⟩ (c_X5_exposure hnt l G M S T th o ex ad n hw hi) (cwV 1 hts gL_exposure_X5_exposure rfl rfl rfl (by decide +kernel) ⟨Nat.le_of_ble_eq_true rfl, Nat.le_of_ble_eq_true rfl⟩) (preV_of hC hS hM f0 rfl) rfl rfl hl.1 rfl (lv_room (Nat.le_of_ble_eq_true rfl)) dL_exposure_4 ⟨Nat.le_of_ble_eq_true rfl, Nat.le_of_ble_eq_true rfl⟩) hS (fun E ce q9 H locs hE hM hS h1 h2 h3 => ?_) (fun r4 u4 H locs hp4 hM hS => ?_)
  · obtain ⟨rfl, z9⟩ := hE
    · refine vx_catch (own := RL) (name := IO) hown [] ⟨0, 8, 11, 13⟩ [] (by rw [hT]; rfl) (fun z hz => absurd hz List.not_mem_nil) (by decide) (by decide) (hts (.classLink RL 13 IO) (by decide +kernel)) (xc_use hC (by decide)) h1 h2 h3 ?_
      show W p l e _ s m _ below meth c _ _ _ _ _ (F0 m 11 ls [.ref q9])
      refine lv_astore_n (lv' := [(3, .ref q9), (0, .ref (ad 0 0)), (1, .int n), (2, .ref (ad 28 0))]) hx hb dL_exposure_11 rfl hl (by decide) rfl (fun ls hl => ?_)
      refine lv_iconst (v := 1) hx hb dL_exposure_12 (by decide) ?_
      exact (r_i hx hb hr hlocks hS (v := 1) _ (Or.inl (⟨rfl, z9, hw⟩)) hM (Nat.le_of_ble_eq_true rfl) (Nat.le_of_ble_eq_true rfl) dL_exposure_13)
  obtain ⟨c90, er⟩ := hp4
  subst er
  have hM : Hm G M H := hM
  have hw9 := hw
  refine m_last (a := (ad 28 0)) hx hb hC hM hS fo (vin_of (n := 1) 1 (by decide) (by decide)) dL_exposure_7 (fun H locs hM hS => ?_)
  have hM : Hm G (va_up M (ad 28 0) (some (.inl (G.2.1 1, 1, .inr (.inl (vp_updL (fun _ => o) (0 : Int32).toNatClampNeg (exs S n.toNatClampNeg))))))) H := hM
  have f7_2 : (va_up M (ad 28 0) (some (.inl (G.2.1 1, 1, .inr (.inl (vp_updL (fun _ => o) (0 : Int32).toNatClampNeg (exs S n.toNatClampNeg))))))) (ad 0 0) = some (.inr (5, [.ref (ad 1 0), .ref (ad 3 0), .ref (ad 5 0), .ref (ad 10 0), .int (S.1 5 0)])) := (up_ne (fun h9 => absurd (Eq.trans (Eq.trans (Eq.symm f0) (congrArg M h9)) fo) (by simp))).trans f0
  have f7_3 : (va_up M (ad 28 0) (some (.inl (G.2.1 1, 1, .inr (.inl (vp_updL (fun _ => o) (0 : Int32).toNatClampNeg (exs S n.toNatClampNeg))))))) (ad 28 0) = some (.inl (G.2.1 1, 1, .inr (.inl (vp_updL (fun _ => o) (0 : Int32).toNatClampNeg (exs S n.toNatClampNeg))))) := up_eq
  refine lv_goto (tgt := 14) hx hb dL_exposure_8 (by decide) ?_
  refine lv_iconst (v := 0) hx hb dL_exposure_14 (by decide) ?_
  have hM := Hm.out (g := fun _ => (exs S n.toNatClampNeg)) hM rfl
  have hwo := w_out hw9 (exs S n.toNatClampNeg)
  exact (r_i hx hb hr hlocks hS (v := 0) _ (Or.inr (⟨rfl, c90, hwo⟩)) hM (Nat.le_of_ble_eq_true rfl) (Nat.le_of_ble_eq_true rfl) dL_exposure_15)
set_option maxHeartbeats 4000000 in
set_option maxRecDepth 100000 in
theorem c_L_due {l : Launch} (hnt : l.stackTraces = false) (l' : Launch) (G : Gx) (M : Mp) (S T : Sd) (th : Int32) (o : Int64) (ex : Nat → Option (Nat × Nat)) (ad : Nat → Nat → Nat) (n x y : Int32) (hw : WA G S T th o ex ad M) (hi : Iv S) (hx9 : Ix S ex) : Met l yL_due wsL_due ({ frames := 8, cells := 3, slots := 18, locals := 136 }) (Cv G M [.ref (ad 0 0), .int n, .int x, .int y, .ref (ad 28 0)]) (va_Qi (S := Mp) (fun r M2 => (r = 1 ∧ (¬ (0 ≤ n ∧ n < 5)) ∧ WA G S T th o ex ad M2) ∨ (r = 2 ∧ ((0 ≤ n ∧ n < 5) ∧ ¬ ((0 ≤ x ∧ x ≤ 4) ∧ (1 ≤ y ∧ y ≤ 20))) ∧ WA G S T th o ex ad M2) ∨ (r = 0 ∧ ((0 ≤ n ∧ n < 5) ∧ (0 ≤ x ∧ x ≤ 4) ∧ (1 ≤ y ∧ y ≤ 20)) ∧ WA G S T th (S.2 0 (5 * (5 * (S.1 0 0 + y).toNatClampNeg + n.toNatClampNeg) + x.toNatClampNeg)) ex ad M2)) (Bm G (fun M2 => M2)) (AG G)) (3) (18) (AG G) := by
  refine m_metc (hh := [(0, 11, 14, 13), (0, 11, 18, 15)]) [.ref (ad 0 0), .int n, .int x, .int y, .ref (ad 28 0)] [(0, .ref (ad 0 0)), (1, .int n), (2, .int x), (3, .int y), (4, .ref (ad 28 0))] (by decide) rfl rfl (Nat.le_of_ble_eq_true rfl) ?_
  intro p e s m below meth c ls hx hb hr hml hown hts hlocks hin hT hC hM hl hS
  have f0 : M (ad 0 0) = some (.inr (5, [.ref (ad 1 0), .ref (ad 3 0), .ref (ad 5 0), .ref (ad 10 0), .int (S.1 5 0)])) := hw.1 0 0 _ rfl
  have fo : M (ad 28 0) = some (.inl (G.2.1 1, 1, .inr (.inl (fun _ => o)))) := hw.1 28 0 _ rfl
  refine lv_aload hx hb dL_due_0 (lv_at hl 4 rfl) ?_
  refine lv_iconst (v := 0) hx hb dL_due_2 (by decide) ?_
  refine lv_aload_n hx hb dL_due_3 rfl (lv_at hl 0 rfl) ?_
  refine lv_iload_n hx hb dL_due_4 rfl (lv_at hl 1 rfl) ?_
  refine lv_iload_n hx hb dL_due_5 rfl (lv_at hl 2 rfl) ?_
  refine lv_iload_n hx hb dL_due_6 rfl (lv_at hl 3 rfl) ?_
  refine kx_l (vx_runV (As := [.int n, .int x, .int y]) (rest := [.int 0, .ref (ad 28 0)]) ⟨hx, hb, hml, hown, hts⟩ (c_X5_due hnt l G M S T th o ex ad n x y hw hi hx9) (cwV 3 hts gL_due_X5_due rfl rfl rfl (by decide +kernel) ⟨Nat.le_of_ble_eq_true rfl, Nat.le_of_ble_eq_true rfl⟩) (preV_of hC hS hM f0 rfl) rfl rfl hl.1 rfl (lv_room (Nat.le_of_ble_eq_true rfl)) dL_due_7 ⟨Nat.le_of_ble_eq_true rfl, Nat.le_of_ble_eq_true rfl⟩) hS (fun E ce q9 H locs hE hM hS h1 h2 h3 => ?_) (fun r7 u7 H locs hp7 hM hS => ?_)
  · rcases hE with ⟨rfl, z9⟩ | ⟨rfl, z9⟩
    · refine vx_catch (own := RL) (name := IO) hown [] ⟨0, 11, 14, 13⟩ [⟨0, 11, 18, 15⟩] (by rw [hT]; rfl) (fun z hz => absurd hz List.not_mem_nil) (by decide) (by decide) (hts (.classLink RL 13 IO) (by decide +kernel)) (xc_use hC (by decide)) h1 h2 h3 ?_
      show W p l e _ s m _ below meth c _ _ _ _ _ (F0 m 14 ls [.ref q9])
      refine lv_astore (lv' := [(5, .ref q9), (0, .ref (ad 0 0)), (1, .int n), (2, .int x), (3, .int y), (4, .ref (ad 28 0))]) hx hb dL_due_14 hl (by decide) rfl (fun ls hl => ?_)
      refine lv_iconst (v := 1) hx hb dL_due_16 (by decide) ?_
      exact (r_i hx hb hr hlocks hS (v := 1) _ (Or.inl (⟨rfl, z9, hw⟩)) hM (Nat.le_of_ble_eq_true rfl) (Nat.le_of_ble_eq_true rfl) dL_due_17)
    · refine vx_catch (own := RL) (name := IA) hown [⟨0, 11, 14, 13⟩] ⟨0, 11, 18, 15⟩ [] (by rw [hT]; rfl) (fun z hz => by rw [List.mem_singleton.mp hz]; exact Or.inr ⟨by decide, IO, hts (.classLink RL 13 IO) (by decide +kernel), hC.2.2.2.2.2.1 (IA, IO) (by decide)⟩) (by decide) (by decide) (hts (.classLink RL 15 IA) (by decide +kernel)) (xc_use hC (by decide)) h1 h2 h3 ?_
      show W p l e _ s m _ below meth c _ _ _ _ _ (F0 m 18 ls [.ref q9])
      refine lv_astore (lv' := [(5, .ref q9), (0, .ref (ad 0 0)), (1, .int n), (2, .int x), (3, .int y), (4, .ref (ad 28 0))]) hx hb dL_due_18 hl (by decide) rfl (fun ls hl => ?_)
      refine lv_iconst (v := 2) hx hb dL_due_20 (by decide) ?_
      exact (r_i hx hb hr hlocks hS (v := 2) _ (Or.inr (Or.inl (⟨rfl, z9, hw⟩))) hM (Nat.le_of_ble_eq_true rfl) (Nat.le_of_ble_eq_true rfl) dL_due_21)
  obtain ⟨c90, c91, c92, er⟩ := hp7
  subst er
  have hM : Hm G M H := hM
  have hw9 := hw
  refine m_last (a := (ad 28 0)) hx hb hC hM hS fo (vin_of (n := 1) 1 (by decide) (by decide)) dL_due_10 (fun H locs hM hS => ?_)
  have hM : Hm G (va_up M (ad 28 0) (some (.inl (G.2.1 1, 1, .inr (.inl (vp_updL (fun _ => o) (0 : Int32).toNatClampNeg (S.2 0 (5 * (5 * (S.1 0 0 + y).toNatClampNeg + n.toNatClampNeg) + x.toNatClampNeg)))))))) H := hM
  have f10_2 : (va_up M (ad 28 0) (some (.inl (G.2.1 1, 1, .inr (.inl (vp_updL (fun _ => o) (0 : Int32).toNatClampNeg (S.2 0 (5 * (5 * (S.1 0 0 + y).toNatClampNeg + n.toNatClampNeg) + x.toNatClampNeg)))))))) (ad 0 0) = some (.inr (5, [.ref (ad 1 0), .ref (ad 3 0), .ref (ad 5 0), .ref (ad 10 0), .int (S.1 5 0)])) := (up_ne (fun h9 => absurd (Eq.trans (Eq.trans (Eq.symm f0) (congrArg M h9)) fo) (by simp))).trans f0
  have f10_3 : (va_up M (ad 28 0) (some (.inl (G.2.1 1, 1, .inr (.inl (vp_updL (fun _ => o) (0 : Int32).toNatClampNeg (S.2 0 (5 * (5 * (S.1 0 0 + y).toNatClampNeg + n.toNatClampNeg) + x.toNatClampNeg)))))))) (ad 28 0) = some (.inl (G.2.1 1, 1, .inr (.inl (vp_updL (fun _ => o) (0 : Int32).toNatClampNeg (S.2 0 (5 * (5 * (S.1 0 0 + y).toNatClampNeg + n.toNatClampNeg) + x.toNatClampNeg)))))) := up_eq
  refine lv_goto (tgt := 22) hx hb dL_due_11 (by decide) ?_
  refine lv_iconst (v := 0) hx hb dL_due_22 (by decide) ?_
  have hM := Hm.out (g := fun _ => (S.2 0 (5 * (5 * (S.1 0 0 + y).toNatClampNeg + n.toNatClampNeg) + x.toNatClampNeg))) hM rfl
  have hwo := w_out hw9 (S.2 0 (5 * (5 * (S.1 0 0 + y).toNatClampNeg + n.toNatClampNeg) + x.toNatClampNeg))
  exact (r_i hx hb hr hlocks hS (v := 0) _ (Or.inr (Or.inr (⟨rfl, ⟨c90, c91, c92⟩, hwo⟩))) hM (Nat.le_of_ble_eq_true rfl) (Nat.le_of_ble_eq_true rfl) dL_due_23)
set_option maxHeartbeats 4000000 in
set_option maxRecDepth 100000 in
theorem c_L_closeOut {l : Launch} (hnt : l.stackTraces = false) (l' : Launch) (G : Gx) (M : Mp) (S T : Sd) (th : Int32) (o : Int64) (ex : Nat → Option (Nat × Nat)) (ad : Nat → Nat → Nat) (n : Int32) (hw : WA G S T th o ex ad M) (hi : Iv S) (hx9 : Ix S ex) : Met l yL_closeOut wsL_closeOut ({ frames := 8, cells := 4, slots := 18, locals := 155 }) (Cv G M [.ref (ad 0 0), .int n, .ref (ad 28 0)]) (va_Qi (S := Mp) (fun r M2 => (r = 1 ∧ (¬ (0 ≤ n ∧ n.toNatClampNeg < ndl S)) ∧ WA G S T th o ex ad M2) ∨ (r = 2 ∧ ((0 ≤ n ∧ n.toNatClampNeg < ndl S) ∧ S.1 9 n.toNatClampNeg = 0) ∧ WA G S T th o ex ad M2) ∨ (r = 0 ∧ ((0 ≤ n ∧ n.toNatClampNeg < ndl S) ∧ ¬ S.1 9 n.toNatClampNeg = 0) ∧ ∃ ex2, WA G (edS S n.toNatClampNeg) T th (mg S n.toNatClampNeg) ex2 ad M2 ∧ Ix (edS S n.toNatClampNeg) ex2)) (Bm G (fun M2 => M2)) (AG G)) (4) (18) (AG G) := by
  refine m_metc (hh := [(0, 8, 11, 13), (0, 8, 14, 24)]) [.ref (ad 0 0), .int n, .ref (ad 28 0)] [(0, .ref (ad 0 0)), (1, .int n), (2, .ref (ad 28 0))] (by decide) rfl rfl (Nat.le_of_ble_eq_true rfl) ?_
  intro p e s m below meth c ls hx hb hr hml hown hts hlocks hin hT hC hM hl hS
  have f0 : M (ad 0 0) = some (.inr (5, [.ref (ad 1 0), .ref (ad 3 0), .ref (ad 5 0), .ref (ad 10 0), .int (S.1 5 0)])) := hw.1 0 0 _ rfl
  have fo : M (ad 28 0) = some (.inl (G.2.1 1, 1, .inr (.inl (fun _ => o)))) := hw.1 28 0 _ rfl
  refine lv_aload_n hx hb dL_closeOut_0 rfl (lv_at hl 2 rfl) ?_
  refine lv_iconst (v := 0) hx hb dL_closeOut_1 (by decide) ?_
  refine lv_aload_n hx hb dL_closeOut_2 rfl (lv_at hl 0 rfl) ?_
  refine lv_iload_n hx hb dL_closeOut_3 rfl (lv_at hl 1 rfl) ?_
  refine kx_l (vx_runV (As := [.int n]) (rest := [.int 0, .ref (ad 28 0)]) ⟨hx, hb, hml, hown, hts⟩ (c_X5_closeOut hnt l G M S T th o ex ad n hw hi hx9) (cwV 1 hts gL_closeOut_X5_closeOut rfl rfl rfl (by decide +kernel) ⟨Nat.le_of_ble_eq_true rfl, Nat.le_of_ble_eq_true rfl⟩) (preV_of hC hS hM f0 rfl) rfl rfl hl.1 rfl (lv_room (Nat.le_of_ble_eq_true rfl)) dL_closeOut_4 ⟨Nat.le_of_ble_eq_true rfl, Nat.le_of_ble_eq_true rfl⟩) hS (fun E ce q9 H locs hE hM hS h1 h2 h3 => ?_) (fun r4 u4 H locs hp4 hM hS => ?_)
  · rcases hE with ⟨rfl, z9⟩ | ⟨rfl, z9⟩
    · refine vx_catch (own := RL) (name := IO) hown [] ⟨0, 8, 11, 13⟩ [⟨0, 8, 14, 24⟩] (by rw [hT]; rfl) (fun z hz => absurd hz List.not_mem_nil) (by decide) (by decide) (hts (.classLink RL 13 IO) (by decide +kernel)) (xc_use hC (by decide)) h1 h2 h3 ?_
      show W p l e _ s m _ below meth c _ _ _ _ _ (F0 m 11 ls [.ref q9])
      refine lv_astore_n (lv' := [(3, .ref q9), (0, .ref (ad 0 0)), (1, .int n), (2, .ref (ad 28 0))]) hx hb dL_closeOut_11 rfl hl (by decide) rfl (fun ls hl => ?_)
      refine lv_iconst (v := 1) hx hb dL_closeOut_12 (by decide) ?_
      exact (r_i hx hb hr hlocks hS (v := 1) _ (Or.inl (⟨rfl, z9, hw⟩)) hM (Nat.le_of_ble_eq_true rfl) (Nat.le_of_ble_eq_true rfl) dL_closeOut_13)
    · refine vx_catch (own := RL) (name := IS) hown [⟨0, 8, 11, 13⟩] ⟨0, 8, 14, 24⟩ [] (by rw [hT]; rfl) (fun z hz => by rw [List.mem_singleton.mp hz]; exact Or.inr ⟨by decide, IO, hts (.classLink RL 13 IO) (by decide +kernel), hC.2.2.2.2.2.1 (IS, IO) (by decide)⟩) (by decide) (by decide) (hts (.classLink RL 24 IS) (by decide +kernel)) (xc_use hC (by decide)) h1 h2 h3 ?_
      show W p l e _ s m _ below meth c _ _ _ _ _ (F0 m 14 ls [.ref q9])
      refine lv_astore_n (lv' := [(3, .ref q9), (0, .ref (ad 0 0)), (1, .int n), (2, .ref (ad 28 0))]) hx hb dL_closeOut_14 rfl hl (by decide) rfl (fun ls hl => ?_)
      refine lv_iconst (v := 2) hx hb dL_closeOut_15 (by decide) ?_
      exact (r_i hx hb hr hlocks hS (v := 2) _ (Or.inr (Or.inl (⟨rfl, z9, hw⟩))) hM (Nat.le_of_ble_eq_true rfl) (Nat.le_of_ble_eq_true rfl) dL_closeOut_16)
  obtain ⟨c90, c91, er, ex9, hw9, hx8⟩ := hp4
  subst er
  have hM : Hm G u4 H := hM
  have go : u4 (ad 28 0) = some (.inl (G.2.1 1, 1, .inr (.inl (fun _ => o)))) := hw9.1 28 0 _ rfl
  refine m_last (a := (ad 28 0)) hx hb hC hM hS go (vin_of (n := 1) 1 (by decide) (by decide)) dL_closeOut_7 (fun H locs hM hS => ?_)
  have hM : Hm G (va_up u4 (ad 28 0) (some (.inl (G.2.1 1, 1, .inr (.inl (vp_updL (fun _ => o) (0 : Int32).toNatClampNeg (mg S n.toNatClampNeg))))))) H := hM
  have f7_2 : (va_up u4 (ad 28 0) (some (.inl (G.2.1 1, 1, .inr (.inl (vp_updL (fun _ => o) (0 : Int32).toNatClampNeg (mg S n.toNatClampNeg))))))) (ad 28 0) = some (.inl (G.2.1 1, 1, .inr (.inl (vp_updL (fun _ => o) (0 : Int32).toNatClampNeg (mg S n.toNatClampNeg))))) := up_eq
  refine lv_goto (tgt := 17) hx hb dL_closeOut_8 (by decide) ?_
  refine lv_iconst (v := 0) hx hb dL_closeOut_17 (by decide) ?_
  have hM := Hm.out (g := fun _ => (mg S n.toNatClampNeg)) hM rfl
  have hwo := w_out hw9 (mg S n.toNatClampNeg)
  exact (r_i hx hb hr hlocks hS (v := 0) _ (Or.inr (Or.inr (⟨rfl, ⟨c90, c91⟩, ex9, hwo, hx8⟩))) hM (Nat.le_of_ble_eq_true rfl) (Nat.le_of_ble_eq_true rfl) dL_closeOut_18)
set_option maxHeartbeats 4000000 in
set_option maxRecDepth 100000 in
theorem c_L_draw {l : Launch} (hnt : l.stackTraces = false) (l' : Launch) (G : Gx) (M : Mp) (S T : Sd) (th : Int32) (o : Int64) (ex : Nat → Option (Nat × Nat)) (ad : Nat → Nat → Nat) (n x : Int32) (hw : WA G S T th o ex ad M) (hi : Iv S) (hx9 : Ix S ex) : Met l yL_draw wsL_draw ({ frames := 8, cells := 6, slots := 24, locals := 139 }) (Cv G M [.ref (ad 0 0), .int n, .int x, .ref (ad 28 0)]) (va_Qi (S := Mp) (fun r M2 => (r = 1 ∧ (¬ (0 ≤ n ∧ n.toNatClampNeg < ndl S)) ∧ WA G S T th o ex ad M2) ∨ (r = 2 ∧ ((0 ≤ n ∧ n.toNatClampNeg < ndl S) ∧ ¬ (1 ≤ x ∧ x ≤ S.1 9 n.toNatClampNeg)) ∧ WA G S T th o ex ad M2) ∨ (r = 0 ∧ ((0 ≤ n ∧ n.toNatClampNeg < ndl S) ∧ (1 ≤ x ∧ x ≤ S.1 9 n.toNatClampNeg)) ∧ ∃ ex2, WA G (dr3 S n.toNatClampNeg x) T th ((drt S n.toNatClampNeg).toInt64) ex2 ad M2 ∧ Ix (dr3 S n.toNatClampNeg x) ex2)) (Bm G (fun M2 => M2)) (AG G)) (6) (24) (AG G) := by
  refine m_metc (hh := [(0, 10, 13, 13), (0, 10, 17, 15)]) [.ref (ad 0 0), .int n, .int x, .ref (ad 28 0)] [(0, .ref (ad 0 0)), (1, .int n), (2, .int x), (3, .ref (ad 28 0))] (by decide) rfl rfl (Nat.le_of_ble_eq_true rfl) ?_
  intro p e s m below meth c ls hx hb hr hml hown hts hlocks hin hT hC hM hl hS
  have f0 : M (ad 0 0) = some (.inr (5, [.ref (ad 1 0), .ref (ad 3 0), .ref (ad 5 0), .ref (ad 10 0), .int (S.1 5 0)])) := hw.1 0 0 _ rfl
  have fo : M (ad 28 0) = some (.inl (G.2.1 1, 1, .inr (.inl (fun _ => o)))) := hw.1 28 0 _ rfl
  refine lv_aload_n hx hb dL_draw_0 rfl (lv_at hl 3 rfl) ?_
  refine lv_iconst (v := 0) hx hb dL_draw_1 (by decide) ?_
  refine lv_aload_n hx hb dL_draw_2 rfl (lv_at hl 0 rfl) ?_
  refine lv_iload_n hx hb dL_draw_3 rfl (lv_at hl 1 rfl) ?_
  refine lv_iload_n hx hb dL_draw_4 rfl (lv_at hl 2 rfl) ?_
  refine kx_i (vx_runV (As := [.int n, .int x]) (rest := [.int 0, .ref (ad 28 0)]) ⟨hx, hb, hml, hown, hts⟩ (c_X5_draw hnt l G M S T th o ex ad n x hw hi hx9) (cwV 2 hts gL_draw_X5_draw rfl rfl rfl (by decide +kernel) ⟨Nat.le_of_ble_eq_true rfl, Nat.le_of_ble_eq_true rfl⟩) (preV_of hC hS hM f0 rfl) rfl rfl hl.1 rfl (lv_room (Nat.le_of_ble_eq_true rfl)) dL_draw_5 ⟨Nat.le_of_ble_eq_true rfl, Nat.le_of_ble_eq_true rfl⟩) hS (fun E ce q9 H locs hE hM hS h1 h2 h3 => ?_) (fun r5 u5 H locs hp5 hM hS => ?_)
  · rcases hE with ⟨rfl, z9⟩ | ⟨rfl, z9⟩
    · refine vx_catch (own := RL) (name := IO) hown [] ⟨0, 10, 13, 13⟩ [⟨0, 10, 17, 15⟩] (by rw [hT]; rfl) (fun z hz => absurd hz List.not_mem_nil) (by decide) (by decide) (hts (.classLink RL 13 IO) (by decide +kernel)) (xc_use hC (by decide)) h1 h2 h3 ?_
      show W p l e _ s m _ below meth c _ _ _ _ _ (F0 m 13 ls [.ref q9])
      refine lv_astore (lv' := [(4, .ref q9), (0, .ref (ad 0 0)), (1, .int n), (2, .int x), (3, .ref (ad 28 0))]) hx hb dL_draw_13 hl (by decide) rfl (fun ls hl => ?_)
      refine lv_iconst (v := 1) hx hb dL_draw_15 (by decide) ?_
      exact (r_i hx hb hr hlocks hS (v := 1) _ (Or.inl (⟨rfl, z9, hw⟩)) hM (Nat.le_of_ble_eq_true rfl) (Nat.le_of_ble_eq_true rfl) dL_draw_16)
    · refine vx_catch (own := RL) (name := IA) hown [⟨0, 10, 13, 13⟩] ⟨0, 10, 17, 15⟩ [] (by rw [hT]; rfl) (fun z hz => by rw [List.mem_singleton.mp hz]; exact Or.inr ⟨by decide, IO, hts (.classLink RL 13 IO) (by decide +kernel), hC.2.2.2.2.2.1 (IA, IO) (by decide)⟩) (by decide) (by decide) (hts (.classLink RL 15 IA) (by decide +kernel)) (xc_use hC (by decide)) h1 h2 h3 ?_
      show W p l e _ s m _ below meth c _ _ _ _ _ (F0 m 17 ls [.ref q9])
      refine lv_astore (lv' := [(4, .ref q9), (0, .ref (ad 0 0)), (1, .int n), (2, .int x), (3, .ref (ad 28 0))]) hx hb dL_draw_17 hl (by decide) rfl (fun ls hl => ?_)
      refine lv_iconst (v := 2) hx hb dL_draw_19 (by decide) ?_
      exact (r_i hx hb hr hlocks hS (v := 2) _ (Or.inr (Or.inl (⟨rfl, z9, hw⟩))) hM (Nat.le_of_ble_eq_true rfl) (Nat.le_of_ble_eq_true rfl) dL_draw_20)
  obtain ⟨c90, c91, er, ex9, hw9, hx8⟩ := hp5
  subst er
  have hM : Hm G u5 H := hM
  have go : u5 (ad 28 0) = some (.inl (G.2.1 1, 1, .inr (.inl (fun _ => o)))) := hw9.1 28 0 _ rfl
  refine lv_i2l hx hb dL_draw_8 rfl ?_
  refine m_last (a := (ad 28 0)) hx hb hC hM hS go (vin_of (n := 1) 1 (by decide) (by decide)) dL_draw_9 (fun H locs hM hS => ?_)
  have hM : Hm G (va_up u5 (ad 28 0) (some (.inl (G.2.1 1, 1, .inr (.inl (vp_updL (fun _ => o) (0 : Int32).toNatClampNeg (((drt S n.toNatClampNeg)).toInt64))))))) H := hM
  have f9_2 : (va_up u5 (ad 28 0) (some (.inl (G.2.1 1, 1, .inr (.inl (vp_updL (fun _ => o) (0 : Int32).toNatClampNeg (((drt S n.toNatClampNeg)).toInt64))))))) (ad 28 0) = some (.inl (G.2.1 1, 1, .inr (.inl (vp_updL (fun _ => o) (0 : Int32).toNatClampNeg (((drt S n.toNatClampNeg)).toInt64))))) := up_eq
  refine lv_goto (tgt := 21) hx hb dL_draw_10 (by decide) ?_
  refine lv_iconst (v := 0) hx hb dL_draw_21 (by decide) ?_
  have hM := Hm.out (g := fun _ => ((drt S n.toNatClampNeg)).toInt64) hM rfl
  have hwo := w_out hw9 (((drt S n.toNatClampNeg)).toInt64)
  exact (r_i hx hb hr hlocks hS (v := 0) _ (Or.inr (Or.inr (⟨rfl, ⟨c90, c91⟩, ex9, hwo, hx8⟩))) hM (Nat.le_of_ble_eq_true rfl) (Nat.le_of_ble_eq_true rfl) dL_draw_22)
set_option maxHeartbeats 4000000 in
set_option maxRecDepth 100000 in
theorem c_L_roll {l : Launch} (hnt : l.stackTraces = false) (l' : Launch) (G : Gx) (M : Mp) (S T : Sd) (th : Int32) (o : Int64) (ex : Nat → Option (Nat × Nat)) (ad : Nat → Nat → Nat) (n y z : Int32) (hw : WA G S T th o ex ad M) (hi : Iv S) (hx9 : Ix S ex) : Met l yL_roll wsL_roll ({ frames := 8, cells := 5, slots := 24, locals := 155 }) (Cv G M [.ref (ad 0 0), .int n, .int y, .int z, .ref (ad 28 0)]) (va_Qi (S := Mp) (fun r M2 => (r = 1 ∧ (¬ (0 ≤ n ∧ n.toNatClampNeg < ndl S)) ∧ WA G S T th o ex ad M2) ∨ (r = 2 ∧ ((0 ≤ n ∧ n.toNatClampNeg < ndl S) ∧ ¬ (1 ≤ y ∧ y ≤ 100)) ∧ WA G S T th o ex ad M2) ∨ (r = 3 ∧ ((0 ≤ n ∧ n.toNatClampNeg < ndl S) ∧ (1 ≤ y ∧ y ≤ 100) ∧ (S.1 9 n.toNatClampNeg = 0 ∨ ¬ S.1 12 n.toNatClampNeg + y - S.1 0 0 ≤ 400)) ∧ WA G S T th o ex ad M2) ∨ (r = 0 ∧ ((0 ≤ n ∧ n.toNatClampNeg < ndl S) ∧ (1 ≤ y ∧ y ≤ 100) ∧ ¬ S.1 9 n.toNatClampNeg = 0 ∧ S.1 12 n.toNatClampNeg + y - S.1 0 0 ≤ 400) ∧ ∃ ex2, WA G (if z = 0 then rlc S (n.toNatClampNeg) y else rls S (n.toNatClampNeg) y) T th (((if z = 0 then rlc S (n.toNatClampNeg) y else rls S (n.toNatClampNeg) y).1 10 n.toNatClampNeg).toInt64) ex2 ad M2 ∧ Ix (if z = 0 then rlc S (n.toNatClampNeg) y else rls S (n.toNatClampNeg) y) ex2)) (Bm G (fun M2 => M2)) (AG G)) (5) (24) (AG G) := by
  refine m_metc (hh := [(0, 12, 15, 13), (0, 12, 19, 15), (0, 12, 23, 24)]) [.ref (ad 0 0), .int n, .int y, .int z, .ref (ad 28 0)] [(0, .ref (ad 0 0)), (1, .int n), (2, .int y), (3, .int z), (4, .ref (ad 28 0))] (by decide) rfl rfl (Nat.le_of_ble_eq_true rfl) ?_
  intro p e s m below meth c ls hx hb hr hml hown hts hlocks hin hT hC hM hl hS
  have f0 : M (ad 0 0) = some (.inr (5, [.ref (ad 1 0), .ref (ad 3 0), .ref (ad 5 0), .ref (ad 10 0), .int (S.1 5 0)])) := hw.1 0 0 _ rfl
  have fo : M (ad 28 0) = some (.inl (G.2.1 1, 1, .inr (.inl (fun _ => o)))) := hw.1 28 0 _ rfl
  refine lv_aload hx hb dL_roll_0 (lv_at hl 4 rfl) ?_
  refine lv_iconst (v := 0) hx hb dL_roll_2 (by decide) ?_
  refine lv_aload_n hx hb dL_roll_3 rfl (lv_at hl 0 rfl) ?_
  refine lv_iload_n hx hb dL_roll_4 rfl (lv_at hl 1 rfl) ?_
  refine lv_iload_n hx hb dL_roll_5 rfl (lv_at hl 2 rfl) ?_
  refine lv_iload_n hx hb dL_roll_6 rfl (lv_at hl 3 rfl) ?_
  refine kx_i (vx_runV (As := [.int n, .int y, .int z]) (rest := [.int 0, .ref (ad 28 0)]) ⟨hx, hb, hml, hown, hts⟩ (c_X5_roll hnt l G M S T th o ex ad n y z hw hi hx9) (cwV 3 hts gL_roll_X5_roll rfl rfl rfl (by decide +kernel) ⟨Nat.le_of_ble_eq_true rfl, Nat.le_of_ble_eq_true rfl⟩) (preV_of hC hS hM f0 rfl) rfl rfl hl.1 rfl (lv_room (Nat.le_of_ble_eq_true rfl)) dL_roll_7 ⟨Nat.le_of_ble_eq_true rfl, Nat.le_of_ble_eq_true rfl⟩) hS (fun E ce q9 H locs hE hM hS h1 h2 h3 => ?_) (fun r7 u7 H locs hp7 hM hS => ?_)
  · rcases hE with ⟨rfl, z9⟩ | ⟨rfl, z9⟩ | ⟨rfl, z9⟩
    · refine vx_catch (own := RL) (name := IO) hown [] ⟨0, 12, 15, 13⟩ [⟨0, 12, 19, 15⟩, ⟨0, 12, 23, 24⟩] (by rw [hT]; rfl) (fun z hz => absurd hz List.not_mem_nil) (by decide) (by decide) (hts (.classLink RL 13 IO) (by decide +kernel)) (xc_use hC (by decide)) h1 h2 h3 ?_
      show W p l e _ s m _ below meth c _ _ _ _ _ (F0 m 15 ls [.ref q9])
      refine lv_astore (lv' := [(5, .ref q9), (0, .ref (ad 0 0)), (1, .int n), (2, .int y), (3, .int z), (4, .ref (ad 28 0))]) hx hb dL_roll_15 hl (by decide) rfl (fun ls hl => ?_)
      refine lv_iconst (v := 1) hx hb dL_roll_17 (by decide) ?_
      exact (r_i hx hb hr hlocks hS (v := 1) _ (Or.inl (⟨rfl, z9, hw⟩)) hM (Nat.le_of_ble_eq_true rfl) (Nat.le_of_ble_eq_true rfl) dL_roll_18)
    · refine vx_catch (own := RL) (name := IA) hown [⟨0, 12, 15, 13⟩] ⟨0, 12, 19, 15⟩ [⟨0, 12, 23, 24⟩] (by rw [hT]; rfl) (fun z hz => by rw [List.mem_singleton.mp hz]; exact Or.inr ⟨by decide, IO, hts (.classLink RL 13 IO) (by decide +kernel), hC.2.2.2.2.2.1 (IA, IO) (by decide)⟩) (by decide) (by decide) (hts (.classLink RL 15 IA) (by decide +kernel)) (xc_use hC (by decide)) h1 h2 h3 ?_
      show W p l e _ s m _ below meth c _ _ _ _ _ (F0 m 19 ls [.ref q9])
      refine lv_astore (lv' := [(5, .ref q9), (0, .ref (ad 0 0)), (1, .int n), (2, .int y), (3, .int z), (4, .ref (ad 28 0))]) hx hb dL_roll_19 hl (by decide) rfl (fun ls hl => ?_)
      refine lv_iconst (v := 2) hx hb dL_roll_21 (by decide) ?_
      exact (r_i hx hb hr hlocks hS (v := 2) _ (Or.inr (Or.inl (⟨rfl, z9, hw⟩))) hM (Nat.le_of_ble_eq_true rfl) (Nat.le_of_ble_eq_true rfl) dL_roll_22)
    · refine vx_catch (own := RL) (name := IS) hown [⟨0, 12, 15, 13⟩, ⟨0, 12, 19, 15⟩] ⟨0, 12, 23, 24⟩ [] (by rw [hT]; rfl) (fun z hz => (List.mem_cons.mp hz).elim (fun hz => by rw [hz]; exact Or.inr ⟨by decide, IO, hts (.classLink RL 13 IO) (by decide +kernel), hC.2.2.2.2.2.1 (IS, IO) (by decide)⟩) (fun hz => by rw [List.mem_singleton.mp hz]; exact Or.inr ⟨by decide, IA, hts (.classLink RL 15 IA) (by decide +kernel), hC.2.2.2.2.2.1 (IS, IA) (by decide)⟩)) (by decide) (by decide) (hts (.classLink RL 24 IS) (by decide +kernel)) (xc_use hC (by decide)) h1 h2 h3 ?_
      show W p l e _ s m _ below meth c _ _ _ _ _ (F0 m 23 ls [.ref q9])
      refine lv_astore (lv' := [(5, .ref q9), (0, .ref (ad 0 0)), (1, .int n), (2, .int y), (3, .int z), (4, .ref (ad 28 0))]) hx hb dL_roll_23 hl (by decide) rfl (fun ls hl => ?_)
      refine lv_iconst (v := 3) hx hb dL_roll_25 (by decide) ?_
      exact (r_i hx hb hr hlocks hS (v := 3) _ (Or.inr (Or.inr (Or.inl (⟨rfl, z9, hw⟩)))) hM (Nat.le_of_ble_eq_true rfl) (Nat.le_of_ble_eq_true rfl) dL_roll_26)
  obtain ⟨c90, c91, c92, c93, er, ex9, hw9, hx8⟩ := hp7
  subst er
  have hM : Hm G u7 H := hM
  have go : u7 (ad 28 0) = some (.inl (G.2.1 1, 1, .inr (.inl (fun _ => o)))) := hw9.1 28 0 _ rfl
  refine lv_i2l hx hb dL_roll_10 rfl ?_
  refine m_last (a := (ad 28 0)) hx hb hC hM hS go (vin_of (n := 1) 1 (by decide) (by decide)) dL_roll_11 (fun H locs hM hS => ?_)
  have hM : Hm G (va_up u7 (ad 28 0) (some (.inl (G.2.1 1, 1, .inr (.inl (vp_updL (fun _ => o) (0 : Int32).toNatClampNeg ((((if z = 0 then rlc S (n.toNatClampNeg) y else rls S (n.toNatClampNeg) y).1 10 n.toNatClampNeg)).toInt64))))))) H := hM
  have f11_2 : (va_up u7 (ad 28 0) (some (.inl (G.2.1 1, 1, .inr (.inl (vp_updL (fun _ => o) (0 : Int32).toNatClampNeg ((((if z = 0 then rlc S (n.toNatClampNeg) y else rls S (n.toNatClampNeg) y).1 10 n.toNatClampNeg)).toInt64))))))) (ad 28 0) = some (.inl (G.2.1 1, 1, .inr (.inl (vp_updL (fun _ => o) (0 : Int32).toNatClampNeg ((((if z = 0 then rlc S (n.toNatClampNeg) y else rls S (n.toNatClampNeg) y).1 10 n.toNatClampNeg)).toInt64))))) := up_eq
  refine lv_goto (tgt := 27) hx hb dL_roll_12 (by decide) ?_
  refine lv_iconst (v := 0) hx hb dL_roll_27 (by decide) ?_
  have hM := Hm.out (g := fun _ => (((if z = 0 then rlc S (n.toNatClampNeg) y else rls S (n.toNatClampNeg) y).1 10 n.toNatClampNeg)).toInt64) hM rfl
  have hwo := w_out hw9 ((((if z = 0 then rlc S (n.toNatClampNeg) y else rls S (n.toNatClampNeg) y).1 10 n.toNatClampNeg)).toInt64)
  exact (r_i hx hb hr hlocks hS (v := 0) _ (Or.inr (Or.inr (Or.inr (⟨rfl, ⟨c90, c91, c92, c93⟩, ex9, hwo, hx8⟩)))) hM (Nat.le_of_ble_eq_true rfl) (Nat.le_of_ble_eq_true rfl) dL_roll_28)
set_option maxHeartbeats 4000000 in
set_option maxRecDepth 100000 in
theorem c_L_pass {l : Launch} (hnt : l.stackTraces = false) (l' : Launch) (G : Gx) (M : Mp) (S T : Sd) (th : Int32) (o : Int64) (ex : Nat → Option (Nat × Nat)) (ad : Nat → Nat → Nat) (k9 : Nat) (hk9 : k9 = 20) (x : Int32) (hw : WA G S T th o ex ad M) (hi : Iv S) (hx9 : Ix S ex) : Met l yL_pass wsL_pass ({ frames := 8, cells := 42, slots := 132, locals := 179 }) (Cv G M [.ref (ad 0 0), .int x, .ref (ad 28 0)]) (va_Qi (S := Mp) (fun r M2 => (r = 1 ∧ (¬ (1 ≤ x ∧ x ≤ 100)) ∧ WA G S T th o ex ad M2) ∨ (r = 2 ∧ ((1 ≤ x ∧ x ≤ 100) ∧ ¬ S.1 0 0 + x ≤ 1000) ∧ WA G S T th o ex ad M2) ∨ (r = 0 ∧ ((1 ≤ x ∧ x ≤ 100) ∧ S.1 0 0 + x ≤ 1000) ∧ ∃ ex2, WA G (pd S k9 x.toNatClampNeg) T th ((nI (pn S k9 x.toNatClampNeg)).toInt64) ex2 ad M2 ∧ Ix (pd S k9 x.toNatClampNeg) ex2)) (Bm G (fun M2 => M2)) (AG G)) (42) (132) (AG G) := by
  refine m_metc (hh := [(0, 9, 12, 15), (0, 9, 15, 24)]) [.ref (ad 0 0), .int x, .ref (ad 28 0)] [(0, .ref (ad 0 0)), (1, .int x), (2, .ref (ad 28 0))] (by decide) rfl rfl (Nat.le_of_ble_eq_true rfl) ?_
  intro p e s m below meth c ls hx hb hr hml hown hts hlocks hin hT hC hM hl hS
  have f0 : M (ad 0 0) = some (.inr (5, [.ref (ad 1 0), .ref (ad 3 0), .ref (ad 5 0), .ref (ad 10 0), .int (S.1 5 0)])) := hw.1 0 0 _ rfl
  have fo : M (ad 28 0) = some (.inl (G.2.1 1, 1, .inr (.inl (fun _ => o)))) := hw.1 28 0 _ rfl
  refine lv_aload_n hx hb dL_pass_0 rfl (lv_at hl 2 rfl) ?_
  refine lv_iconst (v := 0) hx hb dL_pass_1 (by decide) ?_
  refine lv_aload_n hx hb dL_pass_2 rfl (lv_at hl 0 rfl) ?_
  refine lv_iload_n hx hb dL_pass_3 rfl (lv_at hl 1 rfl) ?_
  refine kx_i (vx_runV (As := [.int x]) (rest := [.int 0, .ref (ad 28 0)]) ⟨hx, hb, hml, hown, hts⟩ (c_X5_pass hnt l G M S T th o ex ad k9 hk9 x hw hi hx9) (cwV 1 hts gL_pass_X5_pass rfl rfl rfl (by decide +kernel) ⟨Nat.le_of_ble_eq_true rfl, Nat.le_of_ble_eq_true rfl⟩) (preV_of hC hS hM f0 rfl) rfl rfl hl.1 rfl (lv_room (Nat.le_of_ble_eq_true rfl)) dL_pass_4 ⟨Nat.le_of_ble_eq_true rfl, Nat.le_of_ble_eq_true rfl⟩) hS (fun E ce q9 H locs hE hM hS h1 h2 h3 => ?_) (fun r4 u4 H locs hp4 hM hS => ?_)
  · rcases hE with ⟨rfl, z9⟩ | ⟨rfl, z9⟩
    · refine vx_catch (own := RL) (name := IA) hown [] ⟨0, 9, 12, 15⟩ [⟨0, 9, 15, 24⟩] (by rw [hT]; rfl) (fun z hz => absurd hz List.not_mem_nil) (by decide) (by decide) (hts (.classLink RL 15 IA) (by decide +kernel)) (xc_use hC (by decide)) h1 h2 h3 ?_
      show W p l e _ s m _ below meth c _ _ _ _ _ (F0 m 12 ls [.ref q9])
      refine lv_astore_n (lv' := [(3, .ref q9), (0, .ref (ad 0 0)), (1, .int x), (2, .ref (ad 28 0))]) hx hb dL_pass_12 rfl hl (by decide) rfl (fun ls hl => ?_)
      refine lv_iconst (v := 1) hx hb dL_pass_13 (by decide) ?_
      exact (r_i hx hb hr hlocks hS (v := 1) _ (Or.inl (⟨rfl, z9, hw⟩)) hM (Nat.le_of_ble_eq_true rfl) (Nat.le_of_ble_eq_true rfl) dL_pass_14)
    · refine vx_catch (own := RL) (name := IS) hown [⟨0, 9, 12, 15⟩] ⟨0, 9, 15, 24⟩ [] (by rw [hT]; rfl) (fun z hz => by rw [List.mem_singleton.mp hz]; exact Or.inr ⟨by decide, IA, hts (.classLink RL 15 IA) (by decide +kernel), hC.2.2.2.2.2.1 (IS, IA) (by decide)⟩) (by decide) (by decide) (hts (.classLink RL 24 IS) (by decide +kernel)) (xc_use hC (by decide)) h1 h2 h3 ?_
      show W p l e _ s m _ below meth c _ _ _ _ _ (F0 m 15 ls [.ref q9])
      refine lv_astore_n (lv' := [(3, .ref q9), (0, .ref (ad 0 0)), (1, .int x), (2, .ref (ad 28 0))]) hx hb dL_pass_15 rfl hl (by decide) rfl (fun ls hl => ?_)
      refine lv_iconst (v := 2) hx hb dL_pass_16 (by decide) ?_
      exact (r_i hx hb hr hlocks hS (v := 2) _ (Or.inr (Or.inl (⟨rfl, z9, hw⟩))) hM (Nat.le_of_ble_eq_true rfl) (Nat.le_of_ble_eq_true rfl) dL_pass_17)
  obtain ⟨c90, c91, er, ex9, hw9, hx8⟩ := hp4
  subst er
  have hM : Hm G u4 H := hM
  have go : u4 (ad 28 0) = some (.inl (G.2.1 1, 1, .inr (.inl (fun _ => o)))) := hw9.1 28 0 _ rfl
  refine lv_i2l hx hb dL_pass_7 rfl ?_
  refine m_last (a := (ad 28 0)) hx hb hC hM hS go (vin_of (n := 1) 1 (by decide) (by decide)) dL_pass_8 (fun H locs hM hS => ?_)
  have hM : Hm G (va_up u4 (ad 28 0) (some (.inl (G.2.1 1, 1, .inr (.inl (vp_updL (fun _ => o) (0 : Int32).toNatClampNeg (((nI (pn S k9 x.toNatClampNeg))).toInt64))))))) H := hM
  have f8_2 : (va_up u4 (ad 28 0) (some (.inl (G.2.1 1, 1, .inr (.inl (vp_updL (fun _ => o) (0 : Int32).toNatClampNeg (((nI (pn S k9 x.toNatClampNeg))).toInt64))))))) (ad 28 0) = some (.inl (G.2.1 1, 1, .inr (.inl (vp_updL (fun _ => o) (0 : Int32).toNatClampNeg (((nI (pn S k9 x.toNatClampNeg))).toInt64))))) := up_eq
  refine lv_goto (tgt := 18) hx hb dL_pass_9 (by decide) ?_
  refine lv_iconst (v := 0) hx hb dL_pass_18 (by decide) ?_
  have hM := Hm.out (g := fun _ => ((nI (pn S k9 x.toNatClampNeg))).toInt64) hM rfl
  have hwo := w_out hw9 (((nI (pn S k9 x.toNatClampNeg))).toInt64)
  exact (r_i hx hb hr hlocks hS (v := 0) _ (Or.inr (Or.inr (⟨rfl, ⟨c90, c91⟩, ex9, hwo, hx8⟩))) hM (Nat.le_of_ble_eq_true rfl) (Nat.le_of_ble_eq_true rfl) dL_pass_19)
set_option maxHeartbeats 4000000 in
set_option maxRecDepth 100000 in
theorem c_L_deal {l : Launch} (hnt : l.stackTraces = false) (l' : Launch) (G : Gx) (M : Mp) (S T : Sd) (th : Int32) (o : Int64) (ex : Nat → Option (Nat × Nat)) (ad : Nat → Nat → Nat) (n y bu am f z : Int32) (hw : WA G S T th o ex ad M) (hi : Iv S) (hbu : bu = 0 ∨ bu = 1) : Met l yL_deal wsL_deal ({ frames := 8, cells := 7, slots := 43, locals := 192 }) (Cv G M [.ref (ad 0 0), .int n, .int y, .int bu, .int am, .int f, .int z, .ref (ad 28 0)]) (va_Qi (S := Mp) (fun r M2 => (r = 1 ∧ (¬ ((0 ≤ n ∧ n < 5) ∧ (0 ≤ y ∧ y < 4))) ∧ WA G S T th o ex ad M2) ∨ (r = 2 ∧ (((0 ≤ n ∧ n < 5) ∧ (0 ≤ y ∧ y < 4)) ∧ ¬ ((1 ≤ am ∧ am ≤ 1000000) ∧ (0 ≤ f ∧ f ≤ 400) ∧ (f ≤ z ∧ z ≤ 400))) ∧ WA G S T th o ex ad M2) ∨ (r = 3 ∧ (((0 ≤ n ∧ n < 5) ∧ (0 ≤ y ∧ y < 4)) ∧ ((1 ≤ am ∧ am ≤ 1000000) ∧ (0 ≤ f ∧ f ≤ 400) ∧ (f ≤ z ∧ z ≤ 400)) ∧ (¬ S.1 5 0 < 20 ∨ (S.1 3 n.toNatClampNeg).toInt64 < exw S n y bu am z)) ∧ WA G S T th o ex ad M2) ∨ (r = 0 ∧ (((0 ≤ n ∧ n < 5) ∧ (0 ≤ y ∧ y < 4)) ∧ ((1 ≤ am ∧ am ≤ 1000000) ∧ (0 ≤ f ∧ f ≤ 400) ∧ (f ≤ z ∧ z ≤ 400)) ∧ S.1 5 0 < 20 ∧ ¬ (S.1 3 n.toNatClampNeg).toInt64 < exw S n y bu am z) ∧ ∃ q, WA G (ndS S n y bu am f z) T th ((S.1 5 0).toInt64) ex (u2 ad 11 (ndl S) q) M2)) (Bm G (fun M2 => M2)) (AG G)) (7) (43) (AG G) := by
  refine m_metc (hh := [(0, 18, 21, 13), (0, 18, 25, 15), (0, 18, 29, 24)]) [.ref (ad 0 0), .int n, .int y, .int bu, .int am, .int f, .int z, .ref (ad 28 0)] [(0, .ref (ad 0 0)), (1, .int n), (2, .int y), (3, .int bu), (4, .int am), (5, .int f), (6, .int z), (7, .ref (ad 28 0))] (by decide) rfl rfl (Nat.le_of_ble_eq_true rfl) ?_
  intro p e s m below meth c ls hx hb hr hml hown hts hlocks hin hT hC hM hl hS
  have f0 : M (ad 0 0) = some (.inr (5, [.ref (ad 1 0), .ref (ad 3 0), .ref (ad 5 0), .ref (ad 10 0), .int (S.1 5 0)])) := hw.1 0 0 _ rfl
  have fo : M (ad 28 0) = some (.inl (G.2.1 1, 1, .inr (.inl (fun _ => o)))) := hw.1 28 0 _ rfl
  refine lv_aload hx hb dL_deal_0 (lv_at hl 7 rfl) ?_
  refine lv_iconst (v := 0) hx hb dL_deal_2 (by decide) ?_
  refine lv_aload_n hx hb dL_deal_3 rfl (lv_at hl 0 rfl) ?_
  refine lv_iload_n hx hb dL_deal_4 rfl (lv_at hl 1 rfl) ?_
  refine lv_iload_n hx hb dL_deal_5 rfl (lv_at hl 2 rfl) ?_
  refine lv_iload_n hx hb dL_deal_6 rfl (lv_at hl 3 rfl) ?_
  refine lv_iload hx hb dL_deal_7 (lv_at hl 4 rfl) ?_
  refine lv_iload hx hb dL_deal_9 (lv_at hl 5 rfl) ?_
  refine lv_iload hx hb dL_deal_11 (lv_at hl 6 rfl) ?_
  refine kx_i (vx_runV (As := [.int n, .int y, .int bu, .int am, .int f, .int z]) (rest := [.int 0, .ref (ad 28 0)]) ⟨hx, hb, hml, hown, hts⟩ (c_X5_deal hnt l G M S T th o ex ad n y bu am f z hw hi hbu) (cwV 6 hts gL_deal_X5_deal rfl rfl rfl (by decide +kernel) ⟨Nat.le_of_ble_eq_true rfl, Nat.le_of_ble_eq_true rfl⟩) (preV_of hC hS hM f0 rfl) rfl rfl hl.1 rfl (lv_room (Nat.le_of_ble_eq_true rfl)) dL_deal_13 ⟨Nat.le_of_ble_eq_true rfl, Nat.le_of_ble_eq_true rfl⟩) hS (fun E ce q9 H locs hE hM hS h1 h2 h3 => ?_) (fun r13 u13 H locs hp13 hM hS => ?_)
  · rcases hE with ⟨rfl, z9⟩ | ⟨rfl, z9⟩ | ⟨rfl, z9⟩
    · refine vx_catch (own := RL) (name := IO) hown [] ⟨0, 18, 21, 13⟩ [⟨0, 18, 25, 15⟩, ⟨0, 18, 29, 24⟩] (by rw [hT]; rfl) (fun z hz => absurd hz List.not_mem_nil) (by decide) (by decide) (hts (.classLink RL 13 IO) (by decide +kernel)) (xc_use hC (by decide)) h1 h2 h3 ?_
      show W p l e _ s m _ below meth c _ _ _ _ _ (F0 m 21 ls [.ref q9])
      refine lv_astore (lv' := [(8, .ref q9), (0, .ref (ad 0 0)), (1, .int n), (2, .int y), (3, .int bu), (4, .int am), (5, .int f), (6, .int z), (7, .ref (ad 28 0))]) hx hb dL_deal_21 hl (by decide) rfl (fun ls hl => ?_)
      refine lv_iconst (v := 1) hx hb dL_deal_23 (by decide) ?_
      exact (r_i hx hb hr hlocks hS (v := 1) _ (Or.inl (⟨rfl, z9, hw⟩)) hM (Nat.le_of_ble_eq_true rfl) (Nat.le_of_ble_eq_true rfl) dL_deal_24)
    · refine vx_catch (own := RL) (name := IA) hown [⟨0, 18, 21, 13⟩] ⟨0, 18, 25, 15⟩ [⟨0, 18, 29, 24⟩] (by rw [hT]; rfl) (fun z hz => by rw [List.mem_singleton.mp hz]; exact Or.inr ⟨by decide, IO, hts (.classLink RL 13 IO) (by decide +kernel), hC.2.2.2.2.2.1 (IA, IO) (by decide)⟩) (by decide) (by decide) (hts (.classLink RL 15 IA) (by decide +kernel)) (xc_use hC (by decide)) h1 h2 h3 ?_
      show W p l e _ s m _ below meth c _ _ _ _ _ (F0 m 25 ls [.ref q9])
      refine lv_astore (lv' := [(8, .ref q9), (0, .ref (ad 0 0)), (1, .int n), (2, .int y), (3, .int bu), (4, .int am), (5, .int f), (6, .int z), (7, .ref (ad 28 0))]) hx hb dL_deal_25 hl (by decide) rfl (fun ls hl => ?_)
      refine lv_iconst (v := 2) hx hb dL_deal_27 (by decide) ?_
      exact (r_i hx hb hr hlocks hS (v := 2) _ (Or.inr (Or.inl (⟨rfl, z9, hw⟩))) hM (Nat.le_of_ble_eq_true rfl) (Nat.le_of_ble_eq_true rfl) dL_deal_28)
    · refine vx_catch (own := RL) (name := IS) hown [⟨0, 18, 21, 13⟩, ⟨0, 18, 25, 15⟩] ⟨0, 18, 29, 24⟩ [] (by rw [hT]; rfl) (fun z hz => (List.mem_cons.mp hz).elim (fun hz => by rw [hz]; exact Or.inr ⟨by decide, IO, hts (.classLink RL 13 IO) (by decide +kernel), hC.2.2.2.2.2.1 (IS, IO) (by decide)⟩) (fun hz => by rw [List.mem_singleton.mp hz]; exact Or.inr ⟨by decide, IA, hts (.classLink RL 15 IA) (by decide +kernel), hC.2.2.2.2.2.1 (IS, IA) (by decide)⟩)) (by decide) (by decide) (hts (.classLink RL 24 IS) (by decide +kernel)) (xc_use hC (by decide)) h1 h2 h3 ?_
      show W p l e _ s m _ below meth c _ _ _ _ _ (F0 m 29 ls [.ref q9])
      refine lv_astore (lv' := [(8, .ref q9), (0, .ref (ad 0 0)), (1, .int n), (2, .int y), (3, .int bu), (4, .int am), (5, .int f), (6, .int z), (7, .ref (ad 28 0))]) hx hb dL_deal_29 hl (by decide) rfl (fun ls hl => ?_)
      refine lv_iconst (v := 3) hx hb dL_deal_31 (by decide) ?_
      exact (r_i hx hb hr hlocks hS (v := 3) _ (Or.inr (Or.inr (Or.inl (⟨rfl, z9, hw⟩)))) hM (Nat.le_of_ble_eq_true rfl) (Nat.le_of_ble_eq_true rfl) dL_deal_32)
  obtain ⟨c90, c91, c92, c93, er, q9, hw9⟩ := hp13
  subst er
  have hM : Hm G u13 H := hM
  have go : u13 (ad 28 0) = some (.inl (G.2.1 1, 1, .inr (.inl (fun _ => o)))) := hw9.1 28 0 _ rfl
  refine lv_i2l hx hb dL_deal_16 rfl ?_
  refine m_last (a := (ad 28 0)) hx hb hC hM hS go (vin_of (n := 1) 1 (by decide) (by decide)) dL_deal_17 (fun H locs hM hS => ?_)
  have hM : Hm G (va_up u13 (ad 28 0) (some (.inl (G.2.1 1, 1, .inr (.inl (vp_updL (fun _ => o) (0 : Int32).toNatClampNeg (((S.1 5 0)).toInt64))))))) H := hM
  have f17_2 : (va_up u13 (ad 28 0) (some (.inl (G.2.1 1, 1, .inr (.inl (vp_updL (fun _ => o) (0 : Int32).toNatClampNeg (((S.1 5 0)).toInt64))))))) (ad 28 0) = some (.inl (G.2.1 1, 1, .inr (.inl (vp_updL (fun _ => o) (0 : Int32).toNatClampNeg (((S.1 5 0)).toInt64))))) := up_eq
  refine lv_goto (tgt := 33) hx hb dL_deal_18 (by decide) ?_
  refine lv_iconst (v := 0) hx hb dL_deal_33 (by decide) ?_
  have hM := Hm.out (g := fun _ => ((S.1 5 0)).toInt64) hM rfl
  have hwo := w_out hw9 (((S.1 5 0)).toInt64)
  exact (r_i hx hb hr hlocks hS (v := 0) _ (Or.inr (Or.inr (Or.inr (⟨rfl, ⟨c90, c91, c92, c93⟩, q9, hwo⟩)))) hM (Nat.le_of_ble_eq_true rfl) (Nat.le_of_ble_eq_true rfl) dL_deal_34)
