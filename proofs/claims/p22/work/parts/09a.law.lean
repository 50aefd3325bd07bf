theorem m_metc {l : Launch} {y : MethodName} {ws ws' : List Cond} {rm : Room} {Qc : Array Value → State → Outcome → State → Prop} {mc ms : Nat} {free : Addr → Prop} {cc : ByteArray} {maxL : Nat} {ret : Option FieldType} {hh : List (Nat × Nat × Nat × Nat)} {G : Gx} {M : Mp} (avs : List Value) (lv : List (Nat × Value))
    (hy : plainName y.cls = true) (hw : ws = Cond.codeWith y cc maxL ret hh :: ws') (hlv : lv_args 0 avs = lv) (hlen : (lg_sl avs).length ≤ maxL)
    (body : ∀ (p : Program) (e : Env) (s : State) (m : MethodId) (below : List Frame) (meth : Method) (c : Code) (ls : Array Slot), p.tables.exec = Jvm.exec → c.code = cc → meth.sig.returnType = ret → c.maxLocals = maxL → s.vm.findClass y.cls = some m.cls → (∀ w ∈ ws, w.before avs.toArray s = true) → meth.locks = false → meth.name = y.name → c.exceptionTable.toList = tableOf hh → Cx G s → Hm G M s.heap → lv_has ls maxL lv →
      va_S (AG G) s.heap s.heap [] → W p l e rm s m avs.toArray below meth c s.heap [] 0 0 (MQ below Qc avs.toArray s mc ms free) (F0 m 0 ls [])) : Met l y ws rm (Cv G M avs) Qc mc ms free := by
  refine va_MetW (cc := cc) (maxL := maxL) (ret := ret) (hh := hh) hy hw ?_
  intro p e s m args below meth c s₁ B hml hv
  obtain ⟨rfl, hC, hM⟩ := hv
  rw [lg_entry_eq]
  have hl := lv_entry avs (n := maxL) hlen
  rw [hlv] at hl
  have hall := atoms_spec (ws := ws) B.pre
  exact body p e s m below meth c _ B.exec B.bytes B.returns hml (findClass_of_methodNamed B.named) hall B.notSynchronized (name_of_methodNamed B.named B.method).1 (vx_table (x := y) B (hall _ (by rw [hw]; exact List.mem_cons_self))) hC hM hl va_S.rf
theorem xc_use {G : Gx} {s : State} {args : Array Value} (hC : Cx G s) {w : Cond} (h : w ∈ XC) : w.before args s = true := va_Nw.use (List.all_eq_true.mp (by decide +kernel : XC.all (fun w => w.onTables) = true) w h) (hC.2.2.2.1 w h)
set_option maxHeartbeats 4000000 in
set_option maxRecDepth 100000 in
theorem c_L_setRate {l : Launch} (hnt : l.stackTraces = false) (l' : Launch) (G : Gx) (M : Mp) (S T : Sd) (th : Int32) (o : Int64) (ex : Nat → Option (Nat × Nat)) (ad : Nat → Nat → Nat) (n x : Int32) (hw : WA G S T th o ex ad M) (hi : Iv S) : Met l yL_setRate wsL_setRate ({ frames := 8, cells := 2, slots := 12, locals := 136 }) (Cv G M [.ref (ad 0 0), .int n, .int x]) (va_Qi (S := Mp) (fun r M2 => (r = (-2000000071) ∧ (¬ (0 ≤ n ∧ n < 4)) ∧ M2 = M) ∨ (r = (-2000000072) ∧ ((0 ≤ n ∧ n < 4) ∧ ¬ (1 ≤ x ∧ x ≤ 100000)) ∧ M2 = M) ∨ (r = S.1 1 n.toNatClampNeg ∧ ((0 ≤ n ∧ n < 4) ∧ (1 ≤ x ∧ x ≤ 100000)) ∧ WA G (u2 S.1 1 n.toNatClampNeg x, S.2) T th o ex ad M2)) (Bm G (fun M2 => M2)) (AG G)) (2) (12) (AG G) := by
  refine m_metc (hh := [(0, 7, 10, 14), (0, 7, 15, 17)]) [.ref (ad 0 0), .int n, .int x] [(0, .ref (ad 0 0)), (1, .int n), (2, .int x)] (by decide) rfl rfl (Nat.le_of_ble_eq_true rfl) ?_
  intro p e s m below meth c ls hx hb hr hml hown hts hlocks hin hT hC hM hl hS
  have f0 : M (ad 0 0) = some (.inr (5, [.ref (ad 1 0), .ref (ad 3 0), .ref (ad 5 0), .ref (ad 10 0), .int (S.1 5 0)])) := hw.1 0 0 _ rfl
  refine lv_aload_n hx hb dL_setRate_0 rfl (lv_at hl 0 rfl) ?_
  refine lv_iload_n hx hb dL_setRate_1 rfl (lv_at hl 1 rfl) ?_
  refine lv_iload_n hx hb dL_setRate_2 rfl (lv_at hl 2 rfl) ?_
  refine kx_i (vx_runV (As := [.int n, .int x]) (rest := []) ⟨hx, hb, hml, hown, hts⟩ (c_X5_setRate hnt l G M S T th o ex ad n x hw hi) (cwV 2 hts gL_setRate_X5_setRate rfl rfl rfl (by decide +kernel) ⟨Nat.le_of_ble_eq_true rfl, Nat.le_of_ble_eq_true rfl⟩) (preV_of hC hS hM f0 rfl) rfl rfl hl.1 rfl (lv_room (Nat.le_of_ble_eq_true rfl)) dL_setRate_3 ⟨Nat.le_of_ble_eq_true rfl, Nat.le_of_ble_eq_true rfl⟩) hS (fun E ce q9 H locs hE hM hS h1 h2 h3 => ?_) (fun r3 u3 H locs hp3 hM hS => ?_)
  · rcases hE with ⟨rfl, z9⟩ | ⟨rfl, z9⟩
    · refine vx_catch (own := RL) (name := IO) hown [] ⟨0, 7, 10, 14⟩ [⟨0, 7, 15, 17⟩] (by rw [hT]; rfl) (fun z hz => absurd hz List.not_mem_nil) (by decide) (by decide) (hts (.classLink RL 14 IO) (by decide +kernel)) (xc_use hC (by decide)) h1 h2 h3 ?_
      show W p l e _ s m _ below meth c _ _ _ _ _ (F0 m 10 ls [.ref q9])
      refine lv_astore (lv' := [(4, .ref q9), (0, .ref (ad 0 0)), (1, .int n), (2, .int x)]) hx hb dL_setRate_10 hl (by decide) rfl (fun ls hl => ?_)
      refine lv_ldc (own := RL) (v := (-2000000071)) hx hb hown (hts (.constant RL 16 (-2000000071)) (by decide +kernel)) dL_setRate_12 ?_
      exact (r_i hx hb hr hlocks hS (v := (-2000000071)) _ (Or.inl (⟨rfl, z9, rfl⟩)) hM (Nat.le_of_ble_eq_true rfl) (Nat.le_of_ble_eq_true rfl) dL_setRate_14)
    · refine vx_catch (own := RL) (name := IA) hown [⟨0, 7, 10, 14⟩] ⟨0, 7, 15, 17⟩ [] (by rw [hT]; rfl) (fun z hz => by rw [List.mem_singleton.mp hz]; exact Or.inr ⟨by decide, IO, hts (.classLink RL 14 IO) (by decide +kernel), hC.2.2.2.2.2.1 (IA, IO) (by decide)⟩) (by decide) (by decide) (hts (.classLink RL 17 IA) (by decide +kernel)) (xc_use hC (by decide)) h1 h2 h3 ?_
      show W p l e _ s m _ below meth c _ _ _ _ _ (F0 m 15 ls [.ref q9])
      refine lv_astore (lv' := [(4, .ref q9), (0, .ref (ad 0 0)), (1, .int n), (2, .int x)]) hx hb dL_setRate_15 hl (by decide) rfl (fun ls hl => ?_)
      refine lv_ldc (own := RL) (v := (-2000000072)) hx hb hown (hts (.constant RL 19 (-2000000072)) (by decide +kernel)) dL_setRate_17 ?_
      exact (r_i hx hb hr hlocks hS (v := (-2000000072)) _ (Or.inr (Or.inl (⟨rfl, z9, rfl⟩))) hM (Nat.le_of_ble_eq_true rfl) (Nat.le_of_ble_eq_true rfl) dL_setRate_19)
  obtain ⟨c90, c91, er, hw9⟩ := hp3
  subst er
  have hM : Hm G u3 H := hM
  refine lv_istore_n (lv' := [(3, .int (S.1 1 n.toNatClampNeg)), (0, .ref (ad 0 0)), (1, .int n), (2, .int x)]) hx hb dL_setRate_6 rfl hl (by decide) rfl (fun ls hl => ?_)
  refine lv_goto (tgt := 20) hx hb dL_setRate_7 (by decide) ?_
  refine lv_iload_n hx hb dL_setRate_20 rfl (lv_at hl 0 rfl) ?_
  exact (r_i hx hb hr hlocks hS (v := (S.1 1 n.toNatClampNeg)) _ (Or.inr (Or.inr (⟨rfl, ⟨c90, c91⟩, hw9⟩))) hM (Nat.le_of_ble_eq_true rfl) (Nat.le_of_ble_eq_true rfl) dL_setRate_21)
set_option maxHeartbeats 4000000 in
set_option maxRecDepth 100000 in
theorem c_L_setPoints {l : Launch} (hnt : l.stackTraces = false) (l' : Launch) (G : Gx) (M : Mp) (S T : Sd) (th : Int32) (o : Int64) (ex : Nat → Option (Nat × Nat)) (ad : Nat → Nat → Nat) (n x : Int32) (hw : WA G S T th o ex ad M) (hi : Iv S) : Met l yL_setPoints wsL_setPoints ({ frames := 8, cells := 2, slots := 12, locals := 136 }) (Cv G M [.ref (ad 0 0), .int n, .int x]) (va_Qi (S := Mp) (fun r M2 => (r = (-2000000071) ∧ (¬ (0 ≤ n ∧ n < 4)) ∧ M2 = M) ∨ (r = (-2000000072) ∧ ((0 ≤ n ∧ n < 4) ∧ ¬ ((-50) ≤ x ∧ x ≤ 50)) ∧ M2 = M) ∨ (r = S.1 2 n.toNatClampNeg ∧ ((0 ≤ n ∧ n < 4) ∧ ((-50) ≤ x ∧ x ≤ 50)) ∧ WA G (u2 S.1 2 n.toNatClampNeg x, S.2) T th o ex ad M2)) (Bm G (fun M2 => M2)) (AG G)) (2) (12) (AG G) := by
  refine m_metc (hh := [(0, 7, 10, 14), (0, 7, 15, 17)]) [.ref (ad 0 0), .int n, .int x] [(0, .ref (ad 0 0)), (1, .int n), (2, .int x)] (by decide) rfl rfl (Nat.le_of_ble_eq_true rfl) ?_
  intro p e s m below meth c ls hx hb hr hml hown hts hlocks hin hT hC hM hl hS
  have f0 : M (ad 0 0) = some (.inr (5, [.ref (ad 1 0), .ref (ad 3 0), .ref (ad 5 0), .ref (ad 10 0), .int (S.1 5 0)])) := hw.1 0 0 _ rfl
  refine lv_aload_n hx hb dL_setPoints_0 rfl (lv_at hl 0 rfl) ?_
  refine lv_iload_n hx hb dL_setPoints_1 rfl (lv_at hl 1 rfl) ?_
  refine lv_iload_n hx hb dL_setPoints_2 rfl (lv_at hl 2 rfl) ?_
  refine kx_i (vx_runV (As := [.int n, .int x]) (rest := []) ⟨hx, hb, hml, hown, hts⟩ (c_X5_setPoints hnt l G M S T th o ex ad n x hw hi) (cwV 2 hts gL_setPoints_X5_setPoints rfl rfl rfl (by decide +kernel) ⟨Nat.le_of_ble_eq_true rfl, Nat.le_of_ble_eq_true rfl⟩) (preV_of hC hS hM f0 rfl) rfl rfl hl.1 rfl (lv_room (Nat.le_of_ble_eq_true rfl)) dL_setPoints_3 ⟨Nat.le_of_ble_eq_true rfl, Nat.le_of_ble_eq_true rfl⟩) hS (fun E ce q9 H locs hE hM hS h1 h2 h3 => ?_) (fun r3 u3 H locs hp3 hM hS => ?_)
  · rcases hE with ⟨rfl, z9⟩ | ⟨rfl, z9⟩
    · refine vx_catch (own := RL) (name := IO) hown [] ⟨0, 7, 10, 14⟩ [⟨0, 7, 15, 17⟩] (by rw [hT]; rfl) (fun z hz => absurd hz List.not_mem_nil) (by decide) (by decide) (hts (.classLink RL 14 IO) (by decide +kernel)) (xc_use hC (by decide)) h1 h2 h3 ?_
      show W p l e _ s m _ below meth c _ _ _ _ _ (F0 m 10 ls [.ref q9])
      refine lv_astore (lv' := [(4, .ref q9), (0, .ref (ad 0 0)), (1, .int n), (2, .int x)]) hx hb dL_setPoints_10 hl (by decide) rfl (fun ls hl => ?_)
      refine lv_ldc (own := RL) (v := (-2000000071)) hx hb hown (hts (.constant RL 16 (-2000000071)) (by decide +kernel)) dL_setPoints_12 ?_
      exact (r_i hx hb hr hlocks hS (v := (-2000000071)) _ (Or.inl (⟨rfl, z9, rfl⟩)) hM (Nat.le_of_ble_eq_true rfl) (Nat.le_of_ble_eq_true rfl) dL_setPoints_14)
    · refine vx_catch (own := RL) (name := IA) hown [⟨0, 7, 10, 14⟩] ⟨0, 7, 15, 17⟩ [] (by rw [hT]; rfl) (fun z hz => by rw [List.mem_singleton.mp hz]; exact Or.inr ⟨by decide, IO, hts (.classLink RL 14 IO) (by decide +kernel), hC.2.2.2.2.2.1 (IA, IO) (by decide)⟩) (by decide) (by decide) (hts (.classLink RL 17 IA) (by decide +kernel)) (xc_use hC (by decide)) h1 h2 h3 ?_
      show W p l e _ s m _ below meth c _ _ _ _ _ (F0 m 15 ls [.ref q9])
      refine lv_astore (lv' := [(4, .ref q9), (0, .ref (ad 0 0)), (1, .int n), (2, .int x)]) hx hb dL_setPoints_15 hl (by decide) rfl (fun ls hl => ?_)
      refine lv_ldc (own := RL) (v := (-2000000072)) hx hb hown (hts (.constant RL 19 (-2000000072)) (by decide +kernel)) dL_setPoints_17 ?_
      exact (r_i hx hb hr hlocks hS (v := (-2000000072)) _ (Or.inr (Or.inl (⟨rfl, z9, rfl⟩))) hM (Nat.le_of_ble_eq_true rfl) (Nat.le_of_ble_eq_true rfl) dL_setPoints_19)
  obtain ⟨c90, c91, er, hw9⟩ := hp3
  subst er
  have hM : Hm G u3 H := hM
  refine lv_istore_n (lv' := [(3, .int (S.1 2 n.toNatClampNeg)), (0, .ref (ad 0 0)), (1, .int n), (2, .int x)]) hx hb dL_setPoints_6 rfl hl (by decide) rfl (fun ls hl => ?_)
  refine lv_goto (tgt := 20) hx hb dL_setPoints_7 (by decide) ?_
  refine lv_iload_n hx hb dL_setPoints_20 rfl (lv_at hl 0 rfl) ?_
  exact (r_i hx hb hr hlocks hS (v := (S.1 2 n.toNatClampNeg)) _ (Or.inr (Or.inr (⟨rfl, ⟨c90, c91⟩, hw9⟩))) hM (Nat.le_of_ble_eq_true rfl) (Nat.le_of_ble_eq_true rfl) dL_setPoints_21)
set_option maxHeartbeats 4000000 in
set_option maxRecDepth 100000 in
theorem c_L_setLimit {l : Launch} (hnt : l.stackTraces = false) (l' : Launch) (G : Gx) (M : Mp) (S T : Sd) (th : Int32) (o : Int64) (ex : Nat → Option (Nat × Nat)) (ad : Nat → Nat → Nat) (n x : Int32) (hw : WA G S T th o ex ad M) (hi : Iv S) : Met l yL_setLimit wsL_setLimit ({ frames := 8, cells := 2, slots := 12, locals := 136 }) (Cv G M [.ref (ad 0 0), .int n, .int x]) (va_Qi (S := Mp) (fun r M2 => (r = (-2000000071) ∧ (¬ (0 ≤ n ∧ n < 5)) ∧ M2 = M) ∨ (r = (-2000000072) ∧ ((0 ≤ n ∧ n < 5) ∧ ¬ (0 ≤ x ∧ x ≤ 100000000)) ∧ M2 = M) ∨ (r = S.1 3 n.toNatClampNeg ∧ ((0 ≤ n ∧ n < 5) ∧ (0 ≤ x ∧ x ≤ 100000000)) ∧ WA G (u2 S.1 3 n.toNatClampNeg x, u2 S.2 2 n.toNatClampNeg x.toInt64) T th o ex ad M2)) (Bm G (fun M2 => M2)) (AG G)) (2) (12) (AG G) := by
  refine m_metc (hh := [(0, 7, 10, 14), (0, 7, 15, 17)]) [.ref (ad 0 0), .int n, .int x] [(0, .ref (ad 0 0)), (1, .int n), (2, .int x)] (by decide) rfl rfl (Nat.le_of_ble_eq_true rfl) ?_
  intro p e s m below meth c ls hx hb hr hml hown hts hlocks hin hT hC hM hl hS
  have f0 : M (ad 0 0) = some (.inr (5, [.ref (ad 1 0), .ref (ad 3 0), .ref (ad 5 0), .ref (ad 10 0), .int (S.1 5 0)])) := hw.1 0 0 _ rfl
  refine lv_aload_n hx hb dL_setLimit_0 rfl (lv_at hl 0 rfl) ?_
  refine lv_iload_n hx hb dL_setLimit_1 rfl (lv_at hl 1 rfl) ?_
  refine lv_iload_n hx hb dL_setLimit_2 rfl (lv_at hl 2 rfl) ?_
  refine kx_i (vx_runV (As := [.int n, .int x]) (rest := []) ⟨hx, hb, hml, hown, hts⟩ (c_X5_setLimit hnt l G M S T th o ex ad n x hw hi) (cwV 2 hts gL_setLimit_X5_setLimit rfl rfl rfl (by decide +kernel) ⟨Nat.le_of_ble_eq_true rfl, Nat.le_of_ble_eq_true rfl⟩) (preV_of hC hS hM f0 rfl) rfl rfl hl.1 rfl (lv_room (Nat.le_of_ble_eq_true rfl)) dL_setLimit_3 ⟨Nat.le_of_ble_eq_true rfl, Nat.le_of_ble_eq_true rfl⟩) hS (fun E ce q9 H locs hE hM hS h1 h2 h3 => ?_) (fun r3 u3 H locs hp3 hM hS => ?_)
  · rcases hE with ⟨rfl, z9⟩ | ⟨rfl, z9⟩
    · refine vx_catch (own := RL) (name := IO) hown [] ⟨0, 7, 10, 14⟩ [⟨0, 7, 15, 17⟩] (by rw [hT]; rfl) (fun z hz => absurd hz List.not_mem_nil) (by decide) (by decide) (hts (.classLink RL 14 IO) (by decide +kernel)) (xc_use hC (by decide)) h1 h2 h3 ?_
      show W p l e _ s m _ below meth c _ _ _ _ _ (F0 m 10 ls [.ref q9])
      refine lv_astore (lv' := [(4, .ref q9), (0, .ref (ad 0 0)), (1, .int n), (2, .int x)]) hx hb dL_setLimit_10 hl (by decide) rfl (fun ls hl => ?_)
      refine lv_ldc (own := RL) (v := (-2000000071)) hx hb hown (hts (.constant RL 16 (-2000000071)) (by decide +kernel)) dL_setLimit_12 ?_
      exact (r_i hx hb hr hlocks hS (v := (-2000000071)) _ (Or.inl (⟨rfl, z9, rfl⟩)) hM (Nat.le_of_ble_eq_true rfl) (Nat.le_of_ble_eq_true rfl) dL_setLimit_14)
    · refine vx_catch (own := RL) (name := IA) hown [⟨0, 7, 10, 14⟩] ⟨0, 7, 15, 17⟩ [] (by rw [hT]; rfl) (fun z hz => by rw [List.mem_singleton.mp hz]; exact Or.inr ⟨by decide, IO, hts (.classLink RL 14 IO) (by decide +kernel), hC.2.2.2.2.2.1 (IA, IO) (by decide)⟩) (by decide) (by decide) (hts (.classLink RL 17 IA) (by decide +kernel)) (xc_use hC (by decide)) h1 h2 h3 ?_
      show W p l e _ s m _ below meth c _ _ _ _ _ (F0 m 15 ls [.ref q9])
      refine lv_astore (lv' := [(4, .ref q9), (0, .ref (ad 0 0)), (1, .int n), (2, .int x)]) hx hb dL_setLimit_15 hl (by decide) rfl (fun ls hl => ?_)
      refine lv_ldc (own := RL) (v := (-2000000072)) hx hb hown (hts (.constant RL 19 (-2000000072)) (by decide +kernel)) dL_setLimit_17 ?_
      exact (r_i hx hb hr hlocks hS (v := (-2000000072)) _ (Or.inr (Or.inl (⟨rfl, z9, rfl⟩))) hM (Nat.le_of_ble_eq_true rfl) (Nat.le_of_ble_eq_true rfl) dL_setLimit_19)
  obtain ⟨c90, c91, er, hw9⟩ := hp3
  subst er
  have hM : Hm G u3 H := hM
  refine lv_istore_n (lv' := [(3, .int (S.1 3 n.toNatClampNeg)), (0, .ref (ad 0 0)), (1, .int n), (2, .int x)]) hx hb dL_setLimit_6 rfl hl (by decide) rfl (fun ls hl => ?_)
  refine lv_goto (tgt := 20) hx hb dL_setLimit_7 (by decide) ?_
  refine lv_iload_n hx hb dL_setLimit_20 rfl (lv_at hl 0 rfl) ?_
  exact (r_i hx hb hr hlocks hS (v := (S.1 3 n.toNatClampNeg)) _ (Or.inr (Or.inr (⟨rfl, ⟨c90, c91⟩, hw9⟩))) hM (Nat.le_of_ble_eq_true rfl) (Nat.le_of_ble_eq_true rfl) dL_setLimit_21)
set_option maxHeartbeats 4000000 in
set_option maxRecDepth 100000 in
theorem c_L_forward {l : Launch} (hnt : l.stackTraces = false) (l' : Launch) (G : Gx) (M : Mp) (S T : Sd) (th : Int32) (o : Int64) (ex : Nat → Option (Nat × Nat)) (ad : Nat → Nat → Nat) (n x : Int32) (hw : WA G S T th o ex ad M) (hi : Iv S) : Met l yL_forward wsL_forward ({ frames := 8, cells := 2, slots := 12, locals := 135 }) (Cv G M [.ref (ad 0 0), .int n, .int x]) (va_Qi (S := Unit) (fun r _ => (r = (-2000000071) ∧ (¬ (0 ≤ n ∧ n < 4))) ∨ (r = (-2000000072) ∧ ((0 ≤ n ∧ n < 4) ∧ ¬ (0 ≤ x ∧ x ≤ 400))) ∨ (r = al1 (S.1 1 n.toNatClampNeg + S.1 2 n.toNatClampNeg * x) ∧ ((0 ≤ n ∧ n < 4) ∧ (0 ≤ x ∧ x ≤ 400)))) (Bm G (fun _ => M)) (AG G)) (2) (12) (AG G) := by
  refine m_metc (hh := [(0, 7, 10, 14), (0, 7, 15, 17)]) [.ref (ad 0 0), .int n, .int x] [(0, .ref (ad 0 0)), (1, .int n), (2, .int x)] (by decide) rfl rfl (Nat.le_of_ble_eq_true rfl) ?_
  intro p e s m below meth c ls hx hb hr hml hown hts hlocks hin hT hC hM hl hS
  have f0 : M (ad 0 0) = some (.inr (5, [.ref (ad 1 0), .ref (ad 3 0), .ref (ad 5 0), .ref (ad 10 0), .int (S.1 5 0)])) := hw.1 0 0 _ rfl
  refine lv_aload_n hx hb dL_forward_0 rfl (lv_at hl 0 rfl) ?_
  refine lv_iload_n hx hb dL_forward_1 rfl (lv_at hl 1 rfl) ?_
  refine lv_iload_n hx hb dL_forward_2 rfl (lv_at hl 2 rfl) ?_
  refine kx_i (vx_runV (As := [.int n, .int x]) (rest := []) ⟨hx, hb, hml, hown, hts⟩ (c_X5_forward hnt l G M S T th o ex ad n x hw hi) (cwV 2 hts gL_forward_X5_forward rfl rfl rfl (by decide +kernel) ⟨Nat.le_of_ble_eq_true rfl, Nat.le_of_ble_eq_true rfl⟩) (preV_of hC hS hM f0 rfl) rfl rfl hl.1 rfl (lv_room (Nat.le_of_ble_eq_true rfl)) dL_forward_3 ⟨Nat.le_of_ble_eq_true rfl, Nat.le_of_ble_eq_true rfl⟩) hS (fun E ce q9 H locs hE hM hS h1 h2 h3 => ?_) (fun r3 u3 H locs hp3 hM hS => ?_)
  · rcases hE with ⟨rfl, z9⟩ | ⟨rfl, z9⟩
    · refine vx_catch (own := RL) (name := IO) hown [] ⟨0, 7, 10, 14⟩ [⟨0, 7, 15, 17⟩] (by rw [hT]; rfl) (fun z hz => absurd hz List.not_mem_nil) (by decide) (by decide) (hts (.classLink RL 14 IO) (by decide +kernel)) (xc_use hC (by decide)) h1 h2 h3 ?_
      show W p l e _ s m _ below meth c _ _ _ _ _ (F0 m 10 ls [.ref q9])
      refine lv_astore (lv' := [(4, .ref q9), (0, .ref (ad 0 0)), (1, .int n), (2, .int x)]) hx hb dL_forward_10 hl (by decide) rfl (fun ls hl => ?_)
      refine lv_ldc (own := RL) (v := (-2000000071)) hx hb hown (hts (.constant RL 16 (-2000000071)) (by decide +kernel)) dL_forward_12 ?_
      exact (r_i hx hb hr hlocks hS (v := (-2000000071)) () (Or.inl (⟨rfl, z9⟩)) hM (Nat.le_of_ble_eq_true rfl) (Nat.le_of_ble_eq_true rfl) dL_forward_14)
    · refine vx_catch (own := RL) (name := IA) hown [⟨0, 7, 10, 14⟩] ⟨0, 7, 15, 17⟩ [] (by rw [hT]; rfl) (fun z hz => by rw [List.mem_singleton.mp hz]; exact Or.inr ⟨by decide, IO, hts (.classLink RL 14 IO) (by decide +kernel), hC.2.2.2.2.2.1 (IA, IO) (by decide)⟩) (by decide) (by decide) (hts (.classLink RL 17 IA) (by decide +kernel)) (xc_use hC (by decide)) h1 h2 h3 ?_
      show W p l e _ s m _ below meth c _ _ _ _ _ (F0 m 15 ls [.ref q9])
      refine lv_astore (lv' := [(4, .ref q9), (0, .ref (ad 0 0)), (1, .int n), (2, .int x)]) hx hb dL_forward_15 hl (by decide) rfl (fun ls hl => ?_)
      refine lv_ldc (own := RL) (v := (-2000000072)) hx hb hown (hts (.constant RL 19 (-2000000072)) (by decide +kernel)) dL_forward_17 ?_
      exact (r_i hx hb hr hlocks hS (v := (-2000000072)) () (Or.inr (Or.inl (⟨rfl, z9⟩))) hM (Nat.le_of_ble_eq_true rfl) (Nat.le_of_ble_eq_true rfl) dL_forward_19)
  obtain ⟨c90, c91, er⟩ := hp3
  subst er
  have hM : Hm G M H := hM
  refine lv_istore_n (lv' := [(3, .int (al1 (S.1 1 n.toNatClampNeg + S.1 2 n.toNatClampNeg * x))), (0, .ref (ad 0 0)), (1, .int n), (2, .int x)]) hx hb dL_forward_6 rfl hl (by decide) rfl (fun ls hl => ?_)
  refine lv_goto (tgt := 20) hx hb dL_forward_7 (by decide) ?_
  refine lv_iload_n hx hb dL_forward_20 rfl (lv_at hl 0 rfl) ?_
  exact (r_i hx hb hr hlocks hS (v := (al1 (S.1 1 n.toNatClampNeg + S.1 2 n.toNatClampNeg * x))) () (Or.inr (Or.inr (⟨rfl, ⟨c90, c91⟩⟩))) hM (Nat.le_of_ble_eq_true rfl) (Nat.le_of_ble_eq_true rfl) dL_forward_21)
set_option maxHeartbeats 4000000 in
set_option maxRecDepth 100000 in
theorem c_L_balance {l : Launch} (hnt : l.stackTraces = false) (l' : Launch) (G : Gx) (M : Mp) (S T : Sd) (th : Int32) (o : Int64) (ex : Nat → Option (Nat × Nat)) (ad : Nat → Nat → Nat) (n x : Int32) (hw : WA G S T th o ex ad M) (hi : Iv S) : Met l yL_balance wsL_balance ({ frames := 8, cells := 2, slots := 12, locals := 135 }) (Cv G M [.ref (ad 0 0), .int n, .int x]) (va_Ql (S := Unit) (fun r _ => (r = (-2000000071) ∧ (¬ (0 ≤ n ∧ n < 5))) ∨ (r = (-2000000072) ∧ ((0 ≤ n ∧ n < 5) ∧ ¬ (0 ≤ x ∧ x ≤ 4))) ∨ (r = S.2 1 (5 * n.toNatClampNeg + x.toNatClampNeg) ∧ ((0 ≤ n ∧ n < 5) ∧ (0 ≤ x ∧ x ≤ 4)))) (Bm G (fun _ => M)) (AG G)) (2) (12) (AG G) := by
  refine m_metc (hh := [(0, 7, 10, 14), (0, 7, 16, 17)]) [.ref (ad 0 0), .int n, .int x] [(0, .ref (ad 0 0)), (1, .int n), (2, .int x)] (by decide) rfl rfl (Nat.le_of_ble_eq_true rfl) ?_
  intro p e s m below meth c ls hx hb hr hml hown hts hlocks hin hT hC hM hl hS
  have f0 : M (ad 0 0) = some (.inr (5, [.ref (ad 1 0), .ref (ad 3 0), .ref (ad 5 0), .ref (ad 10 0), .int (S.1 5 0)])) := hw.1 0 0 _ rfl
  refine lv_aload_n hx hb dL_balance_0 rfl (lv_at hl 0 rfl) ?_
  refine lv_iload_n hx hb dL_balance_1 rfl (lv_at hl 1 rfl) ?_
  refine lv_iload_n hx hb dL_balance_2 rfl (lv_at hl 2 rfl) ?_
  refine kx_l (vx_runV (As := [.int n, .int x]) (rest := []) ⟨hx, hb, hml, hown, hts⟩ (c_X5_balance hnt l G M S T th o ex ad n x hw hi) (cwV 2 hts gL_balance_X5_balance rfl rfl rfl (by decide +kernel) ⟨Nat.le_of_ble_eq_true rfl, Nat.le_of_ble_eq_true rfl⟩) (preV_of hC hS hM f0 rfl) rfl rfl hl.1 rfl (lv_room (Nat.le_of_ble_eq_true rfl)) dL_balance_3 ⟨Nat.le_of_ble_eq_true rfl, Nat.le_of_ble_eq_true rfl⟩) hS (fun E ce q9 H locs hE hM hS h1 h2 h3 => ?_) (fun r3 u3 H locs hp3 hM hS => ?_)
  · rcases hE with ⟨rfl, z9⟩ | ⟨rfl, z9⟩
    · refine vx_catch (own := RL) (name := IO) hown [] ⟨0, 7, 10, 14⟩ [⟨0, 7, 16, 17⟩] (by rw [hT]; rfl) (fun z hz => absurd hz List.not_mem_nil) (by decide) (by decide) (hts (.classLink RL 14 IO) (by decide +kernel)) (xc_use hC (by decide)) h1 h2 h3 ?_
      show W p l e _ s m _ below meth c _ _ _ _ _ (F0 m 10 ls [.ref q9])
      refine lv_astore (lv' := [(5, .ref q9), (0, .ref (ad 0 0)), (1, .int n), (2, .int x)]) hx hb dL_balance_10 hl (by decide) rfl (fun ls hl => ?_)
      refine lv_ldc2 (own := RL) (v := (-2000000071)) hx hb hown (hts (.constantLong RL 51 (-2000000071)) (by decide +kernel)) dL_balance_12 ?_
      exact (r_l hx hb hr hlocks hS (v := (-2000000071)) () (Or.inl (⟨rfl, z9⟩)) hM (Nat.le_of_ble_eq_true rfl) (Nat.le_of_ble_eq_true rfl) dL_balance_15)
    · refine vx_catch (own := RL) (name := IA) hown [⟨0, 7, 10, 14⟩] ⟨0, 7, 16, 17⟩ [] (by rw [hT]; rfl) (fun z hz => by rw [List.mem_singleton.mp hz]; exact Or.inr ⟨by decide, IO, hts (.classLink RL 14 IO) (by decide +kernel), hC.2.2.2.2.2.1 (IA, IO) (by decide)⟩) (by decide) (by decide) (hts (.classLink RL 17 IA) (by decide +kernel)) (xc_use hC (by decide)) h1 h2 h3 ?_
      show W p l e _ s m _ below meth c _ _ _ _ _ (F0 m 16 ls [.ref q9])
      refine lv_astore (lv' := [(5, .ref q9), (0, .ref (ad 0 0)), (1, .int n), (2, .int x)]) hx hb dL_balance_16 hl (by decide) rfl (fun ls hl => ?_)
      refine lv_ldc2 (own := RL) (v := (-2000000072)) hx hb hown (hts (.constantLong RL 66 (-2000000072)) (by decide +kernel)) dL_balance_18 ?_
      exact (r_l hx hb hr hlocks hS (v := (-2000000072)) () (Or.inr (Or.inl (⟨rfl, z9⟩))) hM (Nat.le_of_ble_eq_true rfl) (Nat.le_of_ble_eq_true rfl) dL_balance_21)
  obtain ⟨c90, c91, er⟩ := hp3
  subst er
  have hM : Hm G M H := hM
  refine lv_lstore_n (lv' := [(3, .long (S.2 1 (5 * n.toNatClampNeg + x.toNatClampNeg))), (0, .ref (ad 0 0)), (1, .int n), (2, .int x)]) hx hb dL_balance_6 rfl hl (by decide) rfl (fun ls hl => ?_)
  refine lv_goto (tgt := 22) hx hb dL_balance_7 (by decide) ?_
  refine lv_lload_n hx hb dL_balance_22 rfl (lv_at hl 0 rfl) ?_
  exact (r_l hx hb hr hlocks hS (v := (S.2 1 (5 * n.toNatClampNeg + x.toNatClampNeg))) () (Or.inr (Or.inr (⟨rfl, ⟨c90, c91⟩⟩))) hM (Nat.le_of_ble_eq_true rfl) (Nat.le_of_ble_eq_true rfl) dL_balance_23)
set_option maxHeartbeats 4000000 in
set_option maxRecDepth 100000 in
theorem c_L_toggleHoliday {l : Launch} (hnt : l.stackTraces = false) (l' : Launch) (G : Gx) (M : Mp) (S T : Sd) (th : Int32) (o : Int64) (ex : Nat → Option (Nat × Nat)) (ad : Nat → Nat → Nat) (x : Int32) (hw : WA G S T th o ex ad M) (hi : Iv S) : Met l yL_toggleHoliday wsL_toggleHoliday ({ frames := 8, cells := 2, slots := 12, locals := 133 }) (Cv G M [.ref (ad 0 0), .int x]) (va_Qi (S := Mp) (fun r M2 => (r = (-2000000072) ∧ (¬ (1 ≤ x ∧ x ≤ 1000)) ∧ M2 = M) ∨ (r = (-2000000073) ∧ ((1 ≤ x ∧ x ≤ 1000) ∧ ¬ S.1 0 0 < x) ∧ M2 = M) ∨ (r = tg (S.1 4 x.toNatClampNeg) ∧ ((1 ≤ x ∧ x ≤ 1000) ∧ S.1 0 0 < x) ∧ WA G (u2 S.1 4 x.toNatClampNeg (tg (S.1 4 x.toNatClampNeg)), S.2) T th o ex ad M2)) (Bm G (fun M2 => M2)) (AG G)) (2) (12) (AG G) := by
  refine m_metc (hh := [(0, 6, 9, 17), (0, 6, 13, 27)]) [.ref (ad 0 0), .int x] [(0, .ref (ad 0 0)), (1, .int x)] (by decide) rfl rfl (Nat.le_of_ble_eq_true rfl) ?_
  intro p e s m below meth c ls hx hb hr hml hown hts hlocks hin hT hC hM hl hS
  have f0 : M (ad 0 0) = some (.inr (5, [.ref (ad 1 0), .ref (ad 3 0), .ref (ad 5 0), .ref (ad 10 0), .int (S.1 5 0)])) := hw.1 0 0 _ rfl
  refine lv_aload_n hx hb dL_toggleHoliday_0 rfl (lv_at hl 0 rfl) ?_
  refine lv_iload_n hx hb dL_toggleHoliday_1 rfl (lv_at hl 1 rfl) ?_
  refine kx_i (vx_runV (As := [.int x]) (rest := []) ⟨hx, hb, hml, hown, hts⟩ (c_X5_toggleHoliday hnt l G M S T th o ex ad x hw hi) (cwV 1 hts gL_toggleHoliday_X5_toggleHoliday rfl rfl rfl (by decide +kernel) ⟨Nat.le_of_ble_eq_true rfl, Nat.le_of_ble_eq_true rfl⟩) (preV_of hC hS hM f0 rfl) rfl rfl hl.1 rfl (lv_room (Nat.le_of_ble_eq_true rfl)) dL_toggleHoliday_2 ⟨Nat.le_of_ble_eq_true rfl, Nat.le_of_ble_eq_true rfl⟩) hS (fun E ce q9 H locs hE hM hS h1 h2 h3 => ?_) (fun r2 u2 H locs hp2 hM hS => ?_)
  · rcases hE with ⟨rfl, z9⟩ | ⟨rfl, z9⟩
    · refine vx_catch (own := RL) (name := IA) hown [] ⟨0, 6, 9, 17⟩ [⟨0, 6, 13, 27⟩] (by rw [hT]; rfl) (fun z hz => absurd hz List.not_mem_nil) (by decide) (by decide) (hts (.classLink RL 17 IA) (by decide +kernel)) (xc_use hC (by decide)) h1 h2 h3 ?_
      show W p l e _ s m _ below meth c _ _ _ _ _ (F0 m 9 ls [.ref q9])
      refine lv_astore_n (lv' := [(3, .ref q9), (0, .ref (ad 0 0)), (1, .int x)]) hx hb dL_toggleHoliday_9 rfl hl (by decide) rfl (fun ls hl => ?_)
      refine lv_ldc (own := RL) (v := (-2000000072)) hx hb hown (hts (.constant RL 19 (-2000000072)) (by decide +kernel)) dL_toggleHoliday_10 ?_
      exact (r_i hx hb hr hlocks hS (v := (-2000000072)) _ (Or.inl (⟨rfl, z9, rfl⟩)) hM (Nat.le_of_ble_eq_true rfl) (Nat.le_of_ble_eq_true rfl) dL_toggleHoliday_12)
    · refine vx_catch (own := RL) (name := IS) hown [⟨0, 6, 9, 17⟩] ⟨0, 6, 13, 27⟩ [] (by rw [hT]; rfl) (fun z hz => by rw [List.mem_singleton.mp hz]; exact Or.inr ⟨by decide, IA, hts (.classLink RL 17 IA) (by decide +kernel), hC.2.2.2.2.2.1 (IS, IA) (by decide)⟩) (by decide) (by decide) (hts (.classLink RL 27 IS) (by decide +kernel)) (xc_use hC (by decide)) h1 h2 h3 ?_
      show W p l e _ s m _ below meth c _ _ _ _ _ (F0 m 13 ls [.ref q9])
      refine lv_astore_n (lv' := [(3, .ref q9), (0, .ref (ad 0 0)), (1, .int x)]) hx hb dL_toggleHoliday_13 rfl hl (by decide) rfl (fun ls hl => ?_)
      refine lv_ldc (own := RL) (v := (-2000000073)) hx hb hown (hts (.constant RL 29 (-2000000073)) (by decide +kernel)) dL_toggleHoliday_14 ?_
      exact (r_i hx hb hr hlocks hS (v := (-2000000073)) _ (Or.inr (Or.inl (⟨rfl, z9, rfl⟩))) hM (Nat.le_of_ble_eq_true rfl) (Nat.le_of_ble_eq_true rfl) dL_toggleHoliday_16)
  obtain ⟨c90, c91, er, hw9⟩ := hp2
  subst er
  have hM : Hm G u2 H := hM
  refine lv_istore_n (lv' := [(2, .int (tg (S.1 4 x.toNatClampNeg))), (0, .ref (ad 0 0)), (1, .int x)]) hx hb dL_toggleHoliday_5 rfl hl (by decide) rfl (fun ls hl => ?_)
  refine lv_goto (tgt := 17) hx hb dL_toggleHoliday_6 (by decide) ?_
  refine lv_iload_n hx hb dL_toggleHoliday_17 rfl (lv_at hl 0 rfl) ?_
  refine lv_if_eq (tgt := 25) hx hb dL_toggleHoliday_18 (by decide) (fun c_18 => ?_) (fun c_18 => ?_)
  · refine lv_iconst (v := 0) hx hb dL_toggleHoliday_25 (by decide) ?_
    exact (r_i hx hb hr hlocks hS (v := 0) _ (Or.inr (Or.inr (⟨c_18.symm, ⟨c90, c91⟩, hw9⟩))) hM (Nat.le_of_ble_eq_true rfl) (Nat.le_of_ble_eq_true rfl) dL_toggleHoliday_26)
  · refine lv_iconst (v := 1) hx hb dL_toggleHoliday_21 (by decide) ?_
    refine lv_goto (tgt := 26) hx hb dL_toggleHoliday_22 (by decide) ?_
    exact (r_i hx hb hr hlocks hS (v := 1) _ (Or.inr (Or.inr (⟨((tg01 _).resolve_left c_18).symm, ⟨c90, c91⟩, hw9⟩))) hM (Nat.le_of_ble_eq_true rfl) (Nat.le_of_ble_eq_true rfl) dL_toggleHoliday_26)
set_option maxHeartbeats 4000000 in
set_option maxRecDepth 100000 in
theorem c_L_left {l : Launch} (hnt : l.stackTraces = false) (l' : Launch) (G : Gx) (M : Mp) (S T : Sd) (th : Int32) (o : Int64) (ex : Nat → Option (Nat × Nat)) (ad : Nat → Nat → Nat) (n : Int32) (hw : WA G S T th o ex ad M) (hi : Iv S) : Met l yL_left wsL_left ({ frames := 8, cells := 1, slots := 6, locals := 133 }) (Cv G M [.ref (ad 0 0), .int n]) (va_Qi (S := Unit) (fun r _ => (r = (-2000000071) ∧ (¬ (0 ≤ n ∧ n.toNatClampNeg < ndl S))) ∨ (r = S.1 9 n.toNatClampNeg ∧ ((0 ≤ n ∧ n.toNatClampNeg < ndl S)))) (Bm G (fun _ => M)) (AG G)) (1) (6) (AG G) := by
  refine m_metc (hh := [(0, 6, 9, 14)]) [.ref (ad 0 0), .int n] [(0, .ref (ad 0 0)), (1, .int n)] (by decide) rfl rfl (Nat.le_of_ble_eq_true rfl) ?_
  intro p e s m below meth c ls hx hb hr hml hown hts hlocks hin hT hC hM hl hS
  have f0 : M (ad 0 0) = some (.inr (5, [.ref (ad 1 0), .ref (ad 3 0), .ref (ad 5 0), .ref (ad 10 0), .int (S.1 5 0)])) := hw.1 0 0 _ rfl
  refine lv_aload_n hx hb dL_left_0 rfl (lv_at hl 0 rfl) ?_
  refine lv_iload_n hx hb dL_left_1 rfl (lv_at hl 1 rfl) ?_
  refine kx_i (vx_runV (As := [.int n]) (rest := []) ⟨hx, hb, hml, hown, hts⟩ (c_X5_left hnt l G M S T th o ex ad n hw hi) (cwV 1 hts gL_left_X5_left rfl rfl rfl (by decide +kernel) ⟨Nat.le_of_ble_eq_true rfl, Nat.le_of_ble_eq_true rfl⟩) (preV_of hC hS hM f0 rfl) rfl rfl hl.1 rfl (lv_room (Nat.le_of_ble_eq_true rfl)) dL_left_2 ⟨Nat.le_of_ble_eq_true rfl, Nat.le_of_ble_eq_true rfl⟩) hS (fun E ce q9 H locs hE hM hS h1 h2 h3 => ?_) (fun r2 u2 H locs hp2 hM hS => ?_)
  · obtain ⟨rfl, z9⟩ := hE
    · refine vx_catch (own := RL) (name := IO) hown [] ⟨0, 6, 9, 14⟩ [] (by rw [hT]; rfl) (fun z hz => absurd hz List.not_mem_nil) (by decide) (by decide) (hts (.classLink RL 14 IO) (by decide +kernel)) (xc_use hC (by decide)) h1 h2 h3 ?_
      show W p l e _ s m _ below meth c _ _ _ _ _ (F0 m 9 ls [.ref q9])
      refine lv_astore_n (lv' := [(3, .ref q9), (0, .ref (ad 0 0)), (1, .int n)]) hx hb dL_left_9 rfl hl (by decide) rfl (fun ls hl => ?_)
      refine lv_ldc (own := RL) (v := (-2000000071)) hx hb hown (hts (.constant RL 16 (-2000000071)) (by decide +kernel)) dL_left_10 ?_
      exact (r_i hx hb hr hlocks hS (v := (-2000000071)) () (Or.inl (⟨rfl, z9⟩)) hM (Nat.le_of_ble_eq_true rfl) (Nat.le_of_ble_eq_true rfl) dL_left_12)
  obtain ⟨c90, er⟩ := hp2
  subst er
  have hM : Hm G M H := hM
  refine lv_istore_n (lv' := [(2, .int (S.1 9 n.toNatClampNeg)), (0, .ref (ad 0 0)), (1, .int n)]) hx hb dL_left_5 rfl hl (by decide) rfl (fun ls hl => ?_)
  refine lv_goto (tgt := 13) hx hb dL_left_6 (by decide) ?_
  refine lv_iload_n hx hb dL_left_13 rfl (lv_at hl 0 rfl) ?_
  exact (r_i hx hb hr hlocks hS (v := (S.1 9 n.toNatClampNeg)) () (Or.inr (⟨rfl, c90⟩)) hM (Nat.le_of_ble_eq_true rfl) (Nat.le_of_ble_eq_true rfl) dL_left_14)
set_option maxHeartbeats 4000000 in
set_option maxRecDepth 100000 in
theorem c_L_exposure {l : Launch} (hnt : l.stackTraces = false) (l' : Launch) (G : Gx) (M : Mp) (S T : Sd) (th : Int32) (o : Int64) (ex : Nat → Option (Nat × Nat)) (ad : Nat → Nat → Nat) (n : Int32) (hw : WA G S T th o ex ad M) (hi : Iv S) : Met l yL_exposure wsL_exposure ({ frames := 8, cells := 1, slots := 6, locals := 160 }) (Cv G M [.ref (ad 0 0), .int n]) (va_Ql (S := Unit) (fun r _ => (r = (-2000000071) ∧ (¬ (0 ≤ n ∧ n < 5))) ∨ (r = exs S n.toNatClampNeg ∧ ((0 ≤ n ∧ n < 5)))) (Bm G (fun _ => M)) (AG G)) (1) (6) (AG G) := by
  refine m_metc (hh := [(0, 6, 9, 14)]) [.ref (ad 0 0), .int n] [(0, .ref (ad 0 0)), (1, .int n)] (by decide) rfl rfl (Nat.le_of_ble_eq_true rfl) ?_
  intro p e s m below meth c ls hx hb hr hml hown hts hlocks hin hT hC hM hl hS
  have f0 : M (ad 0 0) = some (.inr (5, [.ref (ad 1 0), .ref (ad 3 0), .ref (ad 5 0), .ref (ad 10 0), .int (S.1 5 0)])) := hw.1 0 0 _ rfl
  refine lv_aload_n hx hb dL_exposure_0 rfl (lv_at hl 0 rfl) ?_
  refine lv_iload_n hx hb dL_exposure_1 rfl (lv_at hl 1 rfl) ?_
  refine kx_l (vx_runV (As := [.int n]) (rest := []) ⟨hx, hb, hml, hown, hts⟩ (c_X5_exposure hnt l G M S T th o ex ad n hw hi) (cwV 1 hts gL_exposure_X5_exposure rfl rfl rfl (by decide +kernel) ⟨Nat.le_of_ble_eq_true rfl, Nat.le_of_ble_eq_true rfl⟩) (preV_of hC hS hM f0 rfl) rfl rfl hl.1 rfl (lv_room (Nat.le_of_ble_eq_true rfl)) dL_exposure_2 ⟨Nat.le_of_ble_eq_true rfl, Nat.le_of_ble_eq_true rfl⟩) hS (fun E ce q9 H locs hE hM hS h1 h2 h3 => ?_) (fun r2 u2 H locs hp2 hM hS => ?_)
  · obtain ⟨rfl, z9⟩ := hE
    · refine vx_catch (own := RL) (name := IO) hown [] ⟨0, 6, 9, 14⟩ [] (by rw [hT]; rfl) (fun z hz => absurd hz List.not_mem_nil) (by decide) (by decide) (hts (.classLink RL 14 IO) (by decide +kernel)) (xc_use hC (by decide)) h1 h2 h3 ?_
      show W p l e _ s m _ below meth c _ _ _ _ _ (F0 m 9 ls [.ref q9])
      refine lv_astore (lv' := [(4, .ref q9), (0, .ref (ad 0 0)), (1, .int n)]) hx hb dL_exposure_9 hl (by decide) rfl (fun ls hl => ?_)
      refine lv_ldc2 (own := RL) (v := (-2000000071)) hx hb hown (hts (.constantLong RL 51 (-2000000071)) (by decide +kernel)) dL_exposure_11 ?_
      exact (r_l hx hb hr hlocks hS (v := (-2000000071)) () (Or.inl (⟨rfl, z9⟩)) hM (Nat.le_of_ble_eq_true rfl) (Nat.le_of_ble_eq_true rfl) dL_exposure_14)
  obtain ⟨c90, er⟩ := hp2
  subst er
  have hM : Hm G M H := hM
  refine lv_lstore_n (lv' := [(2, .long (exs S n.toNatClampNeg)), (0, .ref (ad 0 0)), (1, .int n)]) hx hb dL_exposure_5 rfl hl (by decide) rfl (fun ls hl => ?_)
  refine lv_goto (tgt := 15) hx hb dL_exposure_6 (by decide) ?_
  refine lv_lload_n hx hb dL_exposure_15 rfl (lv_at hl 0 rfl) ?_
  exact (r_l hx hb hr hlocks hS (v := (exs S n.toNatClampNeg)) () (Or.inr (⟨rfl, c90⟩)) hM (Nat.le_of_ble_eq_true rfl) (Nat.le_of_ble_eq_true rfl) dL_exposure_16)
set_option maxHeartbeats 4000000 in
set_option maxRecDepth 100000 in
theorem c_L_due {l : Launch} (hnt : l.stackTraces = false) (l' : Launch) (G : Gx) (M : Mp) (S T : Sd) (th : Int32) (o : Int64) (ex : Nat → Option (Nat × Nat)) (ad : Nat → Nat → Nat) (n x y : Int32) (hw : WA G S T th o ex ad M) (hi : Iv S) (hx9 : Ix S ex) : Met l yL_due wsL_due ({ frames := 8, cells := 3, slots := 18, locals := 136 }) (Cv G M [.ref (ad 0 0), .int n, .int x, .int y]) (va_Ql (S := Unit) (fun r _ => (r = (-2000000071) ∧ (¬ (0 ≤ n ∧ n < 5))) ∨ (r = (-2000000072) ∧ ((0 ≤ n ∧ n < 5) ∧ ¬ ((0 ≤ x ∧ x ≤ 4) ∧ (1 ≤ y ∧ y ≤ 20)))) ∨ (r = S.2 0 (5 * (5 * (S.1 0 0 + y).toNatClampNeg + n.toNatClampNeg) + x.toNatClampNeg) ∧ ((0 ≤ n ∧ n < 5) ∧ (0 ≤ x ∧ x ≤ 4) ∧ (1 ≤ y ∧ y ≤ 20)))) (Bm G (fun _ => M)) (AG G)) (3) (18) (AG G) := by
  refine m_metc (hh := [(0, 9, 12, 14), (0, 9, 18, 17)]) [.ref (ad 0 0), .int n, .int x, .int y] [(0, .ref (ad 0 0)), (1, .int n), (2, .int x), (3, .int y)] (by decide) rfl rfl (Nat.le_of_ble_eq_true rfl) ?_
  intro p e s m below meth c ls hx hb hr hml hown hts hlocks hin hT hC hM hl hS
  have f0 : M (ad 0 0) = some (.inr (5, [.ref (ad 1 0), .ref (ad 3 0), .ref (ad 5 0), .ref (ad 10 0), .int (S.1 5 0)])) := hw.1 0 0 _ rfl
  refine lv_aload_n hx hb dL_due_0 rfl (lv_at hl 0 rfl) ?_
  refine lv_iload_n hx hb dL_due_1 rfl (lv_at hl 1 rfl) ?_
  refine lv_iload_n hx hb dL_due_2 rfl (lv_at hl 2 rfl) ?_
  refine lv_iload_n hx hb dL_due_3 rfl (lv_at hl 3 rfl) ?_
  refine kx_l (vx_runV (As := [.int n, .int x, .int y]) (rest := []) ⟨hx, hb, hml, hown, hts⟩ (c_X5_due hnt l G M S T th o ex ad n x y hw hi hx9) (cwV 3 hts gL_due_X5_due rfl rfl rfl (by decide +kernel) ⟨Nat.le_of_ble_eq_true rfl, Nat.le_of_ble_eq_true rfl⟩) (preV_of hC hS hM f0 rfl) rfl rfl hl.1 rfl (lv_room (Nat.le_of_ble_eq_true rfl)) dL_due_4 ⟨Nat.le_of_ble_eq_true rfl, Nat.le_of_ble_eq_true rfl⟩) hS (fun E ce q9 H locs hE hM hS h1 h2 h3 => ?_) (fun r4 u4 H locs hp4 hM hS => ?_)
  · rcases hE with ⟨rfl, z9⟩ | ⟨rfl, z9⟩
    · refine vx_catch (own := RL) (name := IO) hown [] ⟨0, 9, 12, 14⟩ [⟨0, 9, 18, 17⟩] (by rw [hT]; rfl) (fun z hz => absurd hz List.not_mem_nil) (by decide) (by decide) (hts (.classLink RL 14 IO) (by decide +kernel)) (xc_use hC (by decide)) h1 h2 h3 ?_
      show W p l e _ s m _ below meth c _ _ _ _ _ (F0 m 12 ls [.ref q9])
      refine lv_astore (lv' := [(6, .ref q9), (0, .ref (ad 0 0)), (1, .int n), (2, .int x), (3, .int y)]) hx hb dL_due_12 hl (by decide) rfl (fun ls hl => ?_)
      refine lv_ldc2 (own := RL) (v := (-2000000071)) hx hb hown (hts (.constantLong RL 51 (-2000000071)) (by decide +kernel)) dL_due_14 ?_
      exact (r_l hx hb hr hlocks hS (v := (-2000000071)) () (Or.inl (⟨rfl, z9⟩)) hM (Nat.le_of_ble_eq_true rfl) (Nat.le_of_ble_eq_true rfl) dL_due_17)
    · refine vx_catch (own := RL) (name := IA) hown [⟨0, 9, 12, 14⟩] ⟨0, 9, 18, 17⟩ [] (by rw [hT]; rfl) (fun z hz => by rw [List.mem_singleton.mp hz]; exact Or.inr ⟨by decide, IO, hts (.classLink RL 14 IO) (by decide +kernel), hC.2.2.2.2.2.1 (IA, IO) (by decide)⟩) (by decide) (by decide) (hts (.classLink RL 17 IA) (by decide +kernel)) (xc_use hC (by decide)) h1 h2 h3 ?_
      show W p l e _ s m _ below meth c _ _ _ _ _ (F0 m 18 ls [.ref q9])
      refine lv_astore (lv' := [(6, .ref q9), (0, .ref (ad 0 0)), (1, .int n), (2, .int x), (3, .int y)]) hx hb dL_due_18 hl (by decide) rfl (fun ls hl => ?_)
      refine lv_ldc2 (own := RL) (v := (-2000000072)) hx hb hown (hts (.constantLong RL 66 (-2000000072)) (by decide +kernel)) dL_due_20 ?_
      exact (r_l hx hb hr hlocks hS (v := (-2000000072)) () (Or.inr (Or.inl (⟨rfl, z9⟩))) hM (Nat.le_of_ble_eq_true rfl) (Nat.le_of_ble_eq_true rfl) dL_due_23)
  obtain ⟨c90, c91, c92, er⟩ := hp4
  subst er
  have hM : Hm G M H := hM
  refine lv_lstore (lv' := [(4, .long (S.2 0 (5 * (5 * (S.1 0 0 + y).toNatClampNeg + n.toNatClampNeg) + x.toNatClampNeg))), (0, .ref (ad 0 0)), (1, .int n), (2, .int x), (3, .int y)]) hx hb dL_due_7 hl (by decide) rfl (fun ls hl => ?_)
  refine lv_goto (tgt := 24) hx hb dL_due_9 (by decide) ?_
  refine lv_lload hx hb dL_due_24 (lv_at hl 0 rfl) ?_
  exact (r_l hx hb hr hlocks hS (v := (S.2 0 (5 * (5 * (S.1 0 0 + y).toNatClampNeg + n.toNatClampNeg) + x.toNatClampNeg))) () (Or.inr (Or.inr (⟨rfl, ⟨c90, c91, c92⟩⟩))) hM (Nat.le_of_ble_eq_true rfl) (Nat.le_of_ble_eq_true rfl) dL_due_26)
set_option maxHeartbeats 4000000 in
set_option maxRecDepth 100000 in
theorem c_L_closeOut {l : Launch} (hnt : l.stackTraces = false) (l' : Launch) (G : Gx) (M : Mp) (S T : Sd) (th : Int32) (o : Int64) (ex : Nat → Option (Nat × Nat)) (ad : Nat → Nat → Nat) (n : Int32) (hw : WA G S T th o ex ad M) (hi : Iv S) (hx9 : Ix S ex) : Met l yL_closeOut wsL_closeOut ({ frames := 8, cells := 4, slots := 18, locals := 155 }) (Cv G M [.ref (ad 0 0), .int n]) (va_Ql (S := Mp) (fun r M2 => (r = (-2000000071) ∧ (¬ (0 ≤ n ∧ n.toNatClampNeg < ndl S)) ∧ M2 = M) ∨ (r = (-2000000073) ∧ ((0 ≤ n ∧ n.toNatClampNeg < ndl S) ∧ S.1 9 n.toNatClampNeg = 0) ∧ M2 = M) ∨ (r = mg S n.toNatClampNeg ∧ ((0 ≤ n ∧ n.toNatClampNeg < ndl S) ∧ ¬ S.1 9 n.toNatClampNeg = 0) ∧ ∃ ex2, WA G (edS S n.toNatClampNeg) T th o ex2 ad M2 ∧ Ix (edS S n.toNatClampNeg) ex2)) (Bm G (fun M2 => M2)) (AG G)) (4) (18) (AG G) := by
  refine m_metc (hh := [(0, 6, 9, 14), (0, 6, 15, 27)]) [.ref (ad 0 0), .int n] [(0, .ref (ad 0 0)), (1, .int n)] (by decide) rfl rfl (Nat.le_of_ble_eq_true rfl) ?_
  intro p e s m below meth c ls hx hb hr hml hown hts hlocks hin hT hC hM hl hS
  have f0 : M (ad 0 0) = some (.inr (5, [.ref (ad 1 0), .ref (ad 3 0), .ref (ad 5 0), .ref (ad 10 0), .int (S.1 5 0)])) := hw.1 0 0 _ rfl
  refine lv_aload_n hx hb dL_closeOut_0 rfl (lv_at hl 0 rfl) ?_
  refine lv_iload_n hx hb dL_closeOut_1 rfl (lv_at hl 1 rfl) ?_
  refine kx_l (vx_runV (As := [.int n]) (rest := []) ⟨hx, hb, hml, hown, hts⟩ (c_X5_closeOut hnt l G M S T th o ex ad n hw hi hx9) (cwV 1 hts gL_closeOut_X5_closeOut rfl rfl rfl (by decide +kernel) ⟨Nat.le_of_ble_eq_true rfl, Nat.le_of_ble_eq_true rfl⟩) (preV_of hC hS hM f0 rfl) rfl rfl hl.1 rfl (lv_room (Nat.le_of_ble_eq_true rfl)) dL_closeOut_2 ⟨Nat.le_of_ble_eq_true rfl, Nat.le_of_ble_eq_true rfl⟩) hS (fun E ce q9 H locs hE hM hS h1 h2 h3 => ?_) (fun r2 u2 H locs hp2 hM hS => ?_)
  · rcases hE with ⟨rfl, z9⟩ | ⟨rfl, z9⟩
    · refine vx_catch (own := RL) (name := IO) hown [] ⟨0, 6, 9, 14⟩ [⟨0, 6, 15, 27⟩] (by rw [hT]; rfl) (fun z hz => absurd hz List.not_mem_nil) (by decide) (by decide) (hts (.classLink RL 14 IO) (by decide +kernel)) (xc_use hC (by decide)) h1 h2 h3 ?_
      show W p l e _ s m _ below meth c _ _ _ _ _ (F0 m 9 ls [.ref q9])
      refine lv_astore (lv' := [(4, .ref q9), (0, .ref (ad 0 0)), (1, .int n)]) hx hb dL_closeOut_9 hl (by decide) rfl (fun ls hl => ?_)
      refine lv_ldc2 (own := RL) (v := (-2000000071)) hx hb hown (hts (.constantLong RL 51 (-2000000071)) (by decide +kernel)) dL_closeOut_11 ?_
      exact (r_l hx hb hr hlocks hS (v := (-2000000071)) _ (Or.inl (⟨rfl, z9, rfl⟩)) hM (Nat.le_of_ble_eq_true rfl) (Nat.le_of_ble_eq_true rfl) dL_closeOut_14)
    · refine vx_catch (own := RL) (name := IS) hown [⟨0, 6, 9, 14⟩] ⟨0, 6, 15, 27⟩ [] (by rw [hT]; rfl) (fun z hz => by rw [List.mem_singleton.mp hz]; exact Or.inr ⟨by decide, IO, hts (.classLink RL 14 IO) (by decide +kernel), hC.2.2.2.2.2.1 (IS, IO) (by decide)⟩) (by decide) (by decide) (hts (.classLink RL 27 IS) (by decide +kernel)) (xc_use hC (by decide)) h1 h2 h3 ?_
      show W p l e _ s m _ below meth c _ _ _ _ _ (F0 m 15 ls [.ref q9])
      refine lv_astore (lv' := [(4, .ref q9), (0, .ref (ad 0 0)), (1, .int n)]) hx hb dL_closeOut_15 hl (by decide) rfl (fun ls hl => ?_)
      refine lv_ldc2 (own := RL) (v := (-2000000073)) hx hb hown (hts (.constantLong RL 53 (-2000000073)) (by decide +kernel)) dL_closeOut_17 ?_
      exact (r_l hx hb hr hlocks hS (v := (-2000000073)) _ (Or.inr (Or.inl (⟨rfl, z9, rfl⟩))) hM (Nat.le_of_ble_eq_true rfl) (Nat.le_of_ble_eq_true rfl) dL_closeOut_20)
  obtain ⟨c90, c91, er, ex9, hw9, hx8⟩ := hp2
  subst er
  have hM : Hm G u2 H := hM
  refine lv_lstore_n (lv' := [(2, .long (mg S n.toNatClampNeg)), (0, .ref (ad 0 0)), (1, .int n)]) hx hb dL_closeOut_5 rfl hl (by decide) rfl (fun ls hl => ?_)
  refine lv_goto (tgt := 21) hx hb dL_closeOut_6 (by decide) ?_
  refine lv_lload_n hx hb dL_closeOut_21 rfl (lv_at hl 0 rfl) ?_
  exact (r_l hx hb hr hlocks hS (v := (mg S n.toNatClampNeg)) _ (Or.inr (Or.inr (⟨rfl, ⟨c90, c91⟩, ex9, hw9, hx8⟩))) hM (Nat.le_of_ble_eq_true rfl) (Nat.le_of_ble_eq_true rfl) dL_closeOut_22)
set_option maxHeartbeats 4000000 in
set_option maxRecDepth 100000 in
theorem c_L_draw {l : Launch} (hnt : l.stackTraces = false) (l' : Launch) (G : Gx) (M : Mp) (S T : Sd) (th : Int32) (o : Int64) (ex : Nat → Option (Nat × Nat)) (ad : Nat → Nat → Nat) (n x : Int32) (hw : WA G S T th o ex ad M) (hi : Iv S) (hx9 : Ix S ex) : Met l yL_draw wsL_draw ({ frames := 8, cells := 6, slots := 24, locals := 139 }) (Cv G M [.ref (ad 0 0), .int n, .int x]) (va_Qi (S := Mp) (fun r M2 => (r = (-2000000071) ∧ (¬ (0 ≤ n ∧ n.toNatClampNeg < ndl S)) ∧ M2 = M) ∨ (r = (-2000000072) ∧ ((0 ≤ n ∧ n.toNatClampNeg < ndl S) ∧ ¬ (1 ≤ x ∧ x ≤ S.1 9 n.toNatClampNeg)) ∧ M2 = M) ∨ (r = drt S n.toNatClampNeg ∧ ((0 ≤ n ∧ n.toNatClampNeg < ndl S) ∧ (1 ≤ x ∧ x ≤ S.1 9 n.toNatClampNeg)) ∧ ∃ ex2, WA G (dr3 S n.toNatClampNeg x) T th o ex2 ad M2 ∧ Ix (dr3 S n.toNatClampNeg x) ex2)) (Bm G (fun M2 => M2)) (AG G)) (6) (24) (AG G) := by
  refine m_metc (hh := [(0, 7, 10, 14), (0, 7, 15, 17)]) [.ref (ad 0 0), .int n, .int x] [(0, .ref (ad 0 0)), (1, .int n), (2, .int x)] (by decide) rfl rfl (Nat.le_of_ble_eq_true rfl) ?_
  intro p e s m below meth c ls hx hb hr hml hown hts hlocks hin hT hC hM hl hS
  have f0 : M (ad 0 0) = some (.inr (5, [.ref (ad 1 0), .ref (ad 3 0), .ref (ad 5 0), .ref (ad 10 0), .int (S.1 5 0)])) := hw.1 0 0 _ rfl
  refine lv_aload_n hx hb dL_draw_0 rfl (lv_at hl 0 rfl) ?_
  refine lv_iload_n hx hb dL_draw_1 rfl (lv_at hl 1 rfl) ?_
  refine lv_iload_n hx hb dL_draw_2 rfl (lv_at hl 2 rfl) ?_
  refine kx_i (vx_runV (As := [.int n, .int x]) (rest := []) ⟨hx, hb, hml, hown, hts⟩ (c_X5_draw hnt l G M S T th o ex ad n x hw hi hx9) (cwV 2 hts gL_draw_X5_draw rfl rfl rfl (by decide +kernel) ⟨Nat.le_of_ble_eq_true rfl, Nat.le_of_ble_eq_true rfl⟩) (preV_of hC hS hM f0 rfl) rfl rfl hl.1 rfl (lv_room (Nat.le_of_ble_eq_true rfl)) dL_draw_3 ⟨Nat.le_of_ble_eq_true rfl, Nat.le_of_ble_eq_true rfl⟩) hS (fun E ce q9 H locs hE hM hS h1 h2 h3 => ?_) (fun r3 u3 H locs hp3 hM hS => ?_)
  · rcases hE with ⟨rfl, z9⟩ | ⟨rfl, z9⟩
    · refine vx_catch (own := RL) (name := IO) hown [] ⟨0, 7, 10, 14⟩ [⟨0, 7, 15, 17⟩] (by rw [hT]; rfl) (fun z hz => absurd hz List.not_mem_nil) (by decide) (by decide) (hts (.classLink RL 14 IO) (by decide +kernel)) (xc_use hC (by decide)) h1 h2 h3 ?_
      show W p l e _ s m _ below meth c _ _ _ _ _ (F0 m 10 ls [.ref q9])
      refine lv_astore (lv' := [(4, .ref q9), (0, .ref (ad 0 0)), (1, .int n), (2, .int x)]) hx hb dL_draw_10 hl (by decide) rfl (fun ls hl => ?_)
      refine lv_ldc (own := RL) (v := (-2000000071)) hx hb hown (hts (.constant RL 16 (-2000000071)) (by decide +kernel)) dL_draw_12 ?_
      exact (r_i hx hb hr hlocks hS (v := (-2000000071)) _ (Or.inl (⟨rfl, z9, rfl⟩)) hM (Nat.le_of_ble_eq_true rfl) (Nat.le_of_ble_eq_true rfl) dL_draw_14)
    · refine vx_catch (own := RL) (name := IA) hown [⟨0, 7, 10, 14⟩] ⟨0, 7, 15, 17⟩ [] (by rw [hT]; rfl) (fun z hz => by rw [List.mem_singleton.mp hz]; exact Or.inr ⟨by decide, IO, hts (.classLink RL 14 IO) (by decide +kernel), hC.2.2.2.2.2.1 (IA, IO) (by decide)⟩) (by decide) (by decide) (hts (.classLink RL 17 IA) (by decide +kernel)) (xc_use hC (by decide)) h1 h2 h3 ?_
      show W p l e _ s m _ below meth c _ _ _ _ _ (F0 m 15 ls [.ref q9])
      refine lv_astore (lv' := [(4, .ref q9), (0, .ref (ad 0 0)), (1, .int n), (2, .int x)]) hx hb dL_draw_15 hl (by decide) rfl (fun ls hl => ?_)
      refine lv_ldc (own := RL) (v := (-2000000072)) hx hb hown (hts (.constant RL 19 (-2000000072)) (by decide +kernel)) dL_draw_17 ?_
      exact (r_i hx hb hr hlocks hS (v := (-2000000072)) _ (Or.inr (Or.inl (⟨rfl, z9, rfl⟩))) hM (Nat.le_of_ble_eq_true rfl) (Nat.le_of_ble_eq_true rfl) dL_draw_19)
  obtain ⟨c90, c91, er, ex9, hw9, hx8⟩ := hp3
  subst er
  have hM : Hm G u3 H := hM
  refine lv_istore_n (lv' := [(3, .int (drt S n.toNatClampNeg)), (0, .ref (ad 0 0)), (1, .int n), (2, .int x)]) hx hb dL_draw_6 rfl hl (by decide) rfl (fun ls hl => ?_)
  refine lv_goto (tgt := 20) hx hb dL_draw_7 (by decide) ?_
  refine lv_iload_n hx hb dL_draw_20 rfl (lv_at hl 0 rfl) ?_
  exact (r_i hx hb hr hlocks hS (v := (drt S n.toNatClampNeg)) _ (Or.inr (Or.inr (⟨rfl, ⟨c90, c91⟩, ex9, hw9, hx8⟩))) hM (Nat.le_of_ble_eq_true rfl) (Nat.le_of_ble_eq_true rfl) dL_draw_21)
set_option maxHeartbeats 4000000 in
set_option maxRecDepth 100000 in
theorem c_L_roll {l : Launch} (hnt : l.stackTraces = false) (l' : Launch) (G : Gx) (M : Mp) (S T : Sd) (th : Int32) (o : Int64) (ex : Nat → Option (Nat × Nat)) (ad : Nat → Nat → Nat) (n y z : Int32) (hw : WA G S T th o ex ad M) (hi : Iv S) (hx9 : Ix S ex) : Met l yL_roll wsL_roll ({ frames := 8, cells := 5, slots := 24, locals := 155 }) (Cv G M [.ref (ad 0 0), .int n, .int y, .int z]) (va_Qi (S := Mp) (fun r M2 => (r = (-2000000071) ∧ (¬ (0 ≤ n ∧ n.toNatClampNeg < ndl S)) ∧ M2 = M) ∨ (r = (-2000000072) ∧ ((0 ≤ n ∧ n.toNatClampNeg < ndl S) ∧ ¬ (1 ≤ y ∧ y ≤ 100)) ∧ M2 = M) ∨ (r = (-2000000073) ∧ ((0 ≤ n ∧ n.toNatClampNeg < ndl S) ∧ (1 ≤ y ∧ y ≤ 100) ∧ (S.1 9 n.toNatClampNeg = 0 ∨ ¬ S.1 12 n.toNatClampNeg + y - S.1 0 0 ≤ 400)) ∧ M2 = M) ∨ (r = (if z = 0 then rlc S (n.toNatClampNeg) y else rls S (n.toNatClampNeg) y).1 10 n.toNatClampNeg ∧ ((0 ≤ n ∧ n.toNatClampNeg < ndl S) ∧ (1 ≤ y ∧ y ≤ 100) ∧ ¬ S.1 9 n.toNatClampNeg = 0 ∧ S.1 12 n.toNatClampNeg + y - S.1 0 0 ≤ 400) ∧ ∃ ex2, WA G (if z = 0 then rlc S (n.toNatClampNeg) y else rls S (n.toNatClampNeg) y) T th o ex2 ad M2 ∧ Ix (if z = 0 then rlc S (n.toNatClampNeg) y else rls S (n.toNatClampNeg) y) ex2)) (Bm G (fun M2 => M2)) (AG G)) (5) (24) (AG G) := by
  refine m_metc (hh := [(0, 9, 12, 14), (0, 9, 17, 17), (0, 9, 22, 27)]) [.ref (ad 0 0), .int n, .int y, .int z] [(0, .ref (ad 0 0)), (1, .int n), (2, .int y), (3, .int z)] (by decide) rfl rfl (Nat.le_of_ble_eq_true rfl) ?_
  intro p e s m below meth c ls hx hb hr hml hown hts hlocks hin hT hC hM hl hS
  have f0 : M (ad 0 0) = some (.inr (5, [.ref (ad 1 0), .ref (ad 3 0), .ref (ad 5 0), .ref (ad 10 0), .int (S.1 5 0)])) := hw.1 0 0 _ rfl
  refine lv_aload_n hx hb dL_roll_0 rfl (lv_at hl 0 rfl) ?_
  refine lv_iload_n hx hb dL_roll_1 rfl (lv_at hl 1 rfl) ?_
  refine lv_iload_n hx hb dL_roll_2 rfl (lv_at hl 2 rfl) ?_
  refine lv_iload_n hx hb dL_roll_3 rfl (lv_at hl 3 rfl) ?_
  refine kx_i (vx_runV (As := [.int n, .int y, .int z]) (rest := []) ⟨hx, hb, hml, hown, hts⟩ (c_X5_roll hnt l G M S T th o ex ad n y z hw hi hx9) (cwV 3 hts gL_roll_X5_roll rfl rfl rfl (by decide +kernel) ⟨Nat.le_of_ble_eq_true rfl, Nat.le_of_ble_eq_true rfl⟩) (preV_of hC hS hM f0 rfl) rfl rfl hl.1 rfl (lv_room (Nat.le_of_ble_eq_true rfl)) dL_roll_4 ⟨Nat.le_of_ble_eq_true rfl, Nat.le_of_ble_eq_true rfl⟩) hS (fun E ce q9 H locs hE hM hS h1 h2 h3 => ?_) (fun r4 u4 H locs hp4 hM hS => ?_)
  · rcases hE with ⟨rfl, z9⟩ | ⟨rfl, z9⟩ | ⟨rfl, z9⟩
    · refine vx_catch (own := RL) (name := IO) hown [] ⟨0, 9, 12, 14⟩ [⟨0, 9, 17, 17⟩, ⟨0, 9, 22, 27⟩] (by rw [hT]; rfl) (fun z hz => absurd hz List.not_mem_nil) (by decide) (by decide) (hts (.classLink RL 14 IO) (by decide +kernel)) (xc_use hC (by decide)) h1 h2 h3 ?_
      show W p l e _ s m _ below meth c _ _ _ _ _ (F0 m 12 ls [.ref q9])
      refine lv_astore (lv' := [(5, .ref q9), (0, .ref (ad 0 0)), (1, .int n), (2, .int y), (3, .int z)]) hx hb dL_roll_12 hl (by decide) rfl (fun ls hl => ?_)
      refine lv_ldc (own := RL) (v := (-2000000071)) hx hb hown (hts (.constant RL 16 (-2000000071)) (by decide +kernel)) dL_roll_14 ?_
      exact (r_i hx hb hr hlocks hS (v := (-2000000071)) _ (Or.inl (⟨rfl, z9, rfl⟩)) hM (Nat.le_of_ble_eq_true rfl) (Nat.le_of_ble_eq_true rfl) dL_roll_16)
    · refine vx_catch (own := RL) (name := IA) hown [⟨0, 9, 12, 14⟩] ⟨0, 9, 17, 17⟩ [⟨0, 9, 22, 27⟩] (by rw [hT]; rfl) (fun z hz => by rw [List.mem_singleton.mp hz]; exact Or.inr ⟨by decide, IO, hts (.classLink RL 14 IO) (by decide +kernel), hC.2.2.2.2.2.1 (IA, IO) (by decide)⟩) (by decide) (by decide) (hts (.classLink RL 17 IA) (by decide +kernel)) (xc_use hC (by decide)) h1 h2 h3 ?_
      show W p l e _ s m _ below meth c _ _ _ _ _ (F0 m 17 ls [.ref q9])
      refine lv_astore (lv' := [(5, .ref q9), (0, .ref (ad 0 0)), (1, .int n), (2, .int y), (3, .int z)]) hx hb dL_roll_17 hl (by decide) rfl (fun ls hl => ?_)
      refine lv_ldc (own := RL) (v := (-2000000072)) hx hb hown (hts (.constant RL 19 (-2000000072)) (by decide +kernel)) dL_roll_19 ?_
      exact (r_i hx hb hr hlocks hS (v := (-2000000072)) _ (Or.inr (Or.inl (⟨rfl, z9, rfl⟩))) hM (Nat.le_of_ble_eq_true rfl) (Nat.le_of_ble_eq_true rfl) dL_roll_21)
    · refine vx_catch (own := RL) (name := IS) hown [⟨0, 9, 12, 14⟩, ⟨0, 9, 17, 17⟩] ⟨0, 9, 22, 27⟩ [] (by rw [hT]; rfl) (fun z hz => (List.mem_cons.mp hz).elim (fun hz => by rw [hz]; exact Or.inr ⟨by decide, IO, hts (.classLink RL 14 IO) (by decide +kernel), hC.2.2.2.2.2.1 (IS, IO) (by decide)⟩) (fun hz => by rw [List.mem_singleton.mp hz]; exact Or.inr ⟨by decide, IA, hts (.classLink RL 17 IA) (by decide +kernel), hC.2.2.2.2.2.1 (IS, IA) (by decide)⟩)) (by decide) (by decide) (hts (.classLink RL 27 IS) (by decide +kernel)) (xc_use hC (by decide)) h1 h2 h3 ?_
      show W p l e _ s m _ below meth c _ _ _ _ _ (F0 m 22 ls [.ref q9])
      refine lv_astore (lv' := [(5, .ref q9), (0, .ref (ad 0 0)), (1, .int n), (2, .int y), (3, .int z)]) hx hb dL_roll_22 hl (by decide) rfl (fun ls hl => ?_)
      refine lv_ldc (own := RL) (v := (-2000000073)) hx hb hown (hts (.constant RL 29 (-2000000073)) (by decide +kernel)) dL_roll_24 ?_
      exact (r_i hx hb hr hlocks hS (v := (-2000000073)) _ (Or.inr (Or.inr (Or.inl (⟨rfl, z9, rfl⟩)))) hM (Nat.le_of_ble_eq_true rfl) (Nat.le_of_ble_eq_true rfl) dL_roll_26)
  obtain ⟨c90, c91, c92, c93, er, ex9, hw9, hx8⟩ := hp4
  subst er
  have hM : Hm G u4 H := hM
  refine lv_istore (lv' := [(4, .int ((if z = 0 then rlc S (n.toNatClampNeg) y else rls S (n.toNatClampNeg) y).1 10 n.toNatClampNeg)), (0, .ref (ad 0 0)), (1, .int n), (2, .int y), (3, .int z)]) hx hb dL_roll_7 hl (by decide) rfl (fun ls hl => ?_)
  refine lv_goto (tgt := 27) hx hb dL_roll_9 (by decide) ?_
  refine lv_iload hx hb dL_roll_27 (lv_at hl 0 rfl) ?_
  exact (r_i hx hb hr hlocks hS (v := ((if z = 0 then rlc S (n.toNatClampNeg) y else rls S (n.toNatClampNeg) y).1 10 n.toNatClampNeg)) _ (Or.inr (Or.inr (Or.inr (⟨rfl, ⟨c90, c91, c92, c93⟩, ex9, hw9, hx8⟩)))) hM (Nat.le_of_ble_eq_true rfl) (Nat.le_of_ble_eq_true rfl) dL_roll_29)
set_option maxHeartbeats 4000000 in
set_option maxRecDepth 100000 in
theorem c_L_pass {l : Launch} (hnt : l.stackTraces = false) (l' : Launch) (G : Gx) (M : Mp) (S T : Sd) (th : Int32) (o : Int64) (ex : Nat → Option (Nat × Nat)) (ad : Nat → Nat → Nat) (k9 : Nat) (hk9 : k9 = 20) (x : Int32) (hw : WA G S T th o ex ad M) (hi : Iv S) (hx9 : Ix S ex) : Met l yL_pass wsL_pass ({ frames := 8, cells := 42, slots := 132, locals := 179 }) (Cv G M [.ref (ad 0 0), .int x]) (va_Qi (S := Mp) (fun r M2 => (r = (-2000000072) ∧ (¬ (1 ≤ x ∧ x ≤ 100)) ∧ M2 = M) ∨ (r = (-2000000073) ∧ ((1 ≤ x ∧ x ≤ 100) ∧ ¬ S.1 0 0 + x ≤ 1000) ∧ M2 = M) ∨ (r = nI (pn S k9 x.toNatClampNeg) ∧ ((1 ≤ x ∧ x ≤ 100) ∧ S.1 0 0 + x ≤ 1000) ∧ ∃ ex2, WA G (pd S k9 x.toNatClampNeg) T th o ex2 ad M2 ∧ Ix (pd S k9 x.toNatClampNeg) ex2)) (Bm G (fun M2 => M2)) (AG G)) (42) (132) (AG G) := by
  refine m_metc (hh := [(0, 6, 9, 17), (0, 6, 13, 27)]) [.ref (ad 0 0), .int x] [(0, .ref (ad 0 0)), (1, .int x)] (by decide) rfl rfl (Nat.le_of_ble_eq_true rfl) ?_
  intro p e s m below meth c ls hx hb hr hml hown hts hlocks hin hT hC hM hl hS
  have f0 : M (ad 0 0) = some (.inr (5, [.ref (ad 1 0), .ref (ad 3 0), .ref (ad 5 0), .ref (ad 10 0), .int (S.1 5 0)])) := hw.1 0 0 _ rfl
  refine lv_aload_n hx hb dL_pass_0 rfl (lv_at hl 0 rfl) ?_
  refine lv_iload_n hx hb dL_pass_1 rfl (lv_at hl 1 rfl) ?_
  refine kx_i (vx_runV (As := [.int x]) (rest := []) ⟨hx, hb, hml, hown, hts⟩ (c_X5_pass hnt l G M S T th o ex ad k9 hk9 x hw hi hx9) (cwV 1 hts gL_pass_X5_pass rfl rfl rfl (by decide +kernel) ⟨Nat.le_of_ble_eq_true rfl, Nat.le_of_ble_eq_true rfl⟩) (preV_of hC hS hM f0 rfl) rfl rfl hl.1 rfl (lv_room (Nat.le_of_ble_eq_true rfl)) dL_pass_2 ⟨Nat.le_of_ble_eq_true rfl, Nat.le_of_ble_eq_true rfl⟩) hS (fun E ce q9 H locs hE hM hS h1 h2 h3 => ?_) (fun r2 u2 H locs hp2 hM hS => ?_)
  · rcases hE with ⟨rfl, z9⟩ | ⟨rfl, z9⟩
    · refine vx_catch (own := RL) (name := IA) hown [] ⟨0, 6, 9, 17⟩ [⟨0, 6, 13, 27⟩] (by rw [hT]; rfl) (fun z hz => absurd hz List.not_mem_nil) (by decide) (by decide) (hts (.classLink RL 17 IA) (by decide +kernel)) (xc_use hC (by decide)) h1 h2 h3 ?_
      show W p l e _ s m _ below meth c _ _ _ _ _ (F0 m 9 ls [.ref q9])
      refine lv_astore_n (lv' := [(3, .ref q9), (0, .ref (ad 0 0)), (1, .int x)]) hx hb dL_pass_9 rfl hl (by decide) rfl (fun ls hl => ?_)
      refine lv_ldc (own := RL) (v := (-2000000072)) hx hb hown (hts (.constant RL 19 (-2000000072)) (by decide +kernel)) dL_pass_10 ?_
      exact (r_i hx hb hr hlocks hS (v := (-2000000072)) _ (Or.inl (⟨rfl, z9, rfl⟩)) hM (Nat.le_of_ble_eq_true rfl) (Nat.le_of_ble_eq_true rfl) dL_pass_12)
    · refine vx_catch (own := RL) (name := IS) hown [⟨0, 6, 9, 17⟩] ⟨0, 6, 13, 27⟩ [] (by rw [hT]; rfl) (fun z hz => by rw [List.mem_singleton.mp hz]; exact Or.inr ⟨by decide, IA, hts (.classLink RL 17 IA) (by decide +kernel), hC.2.2.2.2.2.1 (IS, IA) (by decide)⟩) (by decide) (by decide) (hts (.classLink RL 27 IS) (by decide +kernel)) (xc_use hC (by decide)) h1 h2 h3 ?_
      show W p l e _ s m _ below meth c _ _ _ _ _ (F0 m 13 ls [.ref q9])
      refine lv_astore_n (lv' := [(3, .ref q9), (0, .ref (ad 0 0)), (1, .int x)]) hx hb dL_pass_13 rfl hl (by decide) rfl (fun ls hl => ?_)
      refine lv_ldc (own := RL) (v := (-2000000073)) hx hb hown (hts (.constant RL 29 (-2000000073)) (by decide +kernel)) dL_pass_14 ?_
      exact (r_i hx hb hr hlocks hS (v := (-2000000073)) _ (Or.inr (Or.inl (⟨rfl, z9, rfl⟩))) hM (Nat.le_of_ble_eq_true rfl) (Nat.le_of_ble_eq_true rfl) dL_pass_16)
  obtain ⟨c90, c91, er, ex9, hw9, hx8⟩ := hp2
  subst er
  have hM : Hm G u2 H := hM
  refine lv_istore_n (lv' := [(2, .int (nI (pn S k9 x.toNatClampNeg))), (0, .ref (ad 0 0)), (1, .int x)]) hx hb dL_pass_5 rfl hl (by decide) rfl (fun ls hl => ?_)
  refine lv_goto (tgt := 17) hx hb dL_pass_6 (by decide) ?_
  refine lv_iload_n hx hb dL_pass_17 rfl (lv_at hl 0 rfl) ?_
  exact (r_i hx hb hr hlocks hS (v := (nI (pn S k9 x.toNatClampNeg))) _ (Or.inr (Or.inr (⟨rfl, ⟨c90, c91⟩, ex9, hw9, hx8⟩))) hM (Nat.le_of_ble_eq_true rfl) (Nat.le_of_ble_eq_true rfl) dL_pass_18)
set_option maxHeartbeats 4000000 in
set_option maxRecDepth 100000 in
theorem c_L_deal {l : Launch} (hnt : l.stackTraces = false) (l' : Launch) (G : Gx) (M : Mp) (S T : Sd) (th : Int32) (o : Int64) (ex : Nat → Option (Nat × Nat)) (ad : Nat → Nat → Nat) (n y bu am f z : Int32) (hw : WA G S T th o ex ad M) (hi : Iv S) (hbu : bu = 0 ∨ bu = 1) : Met l yL_deal wsL_deal ({ frames := 8, cells := 7, slots := 43, locals := 192 }) (Cv G M [.ref (ad 0 0), .int n, .int y, .int bu, .int am, .int f, .int z]) (va_Qi (S := Mp) (fun r M2 => (r = (-2000000071) ∧ (¬ ((0 ≤ n ∧ n < 5) ∧ (0 ≤ y ∧ y < 4))) ∧ M2 = M) ∨ (r = (-2000000072) ∧ (((0 ≤ n ∧ n < 5) ∧ (0 ≤ y ∧ y < 4)) ∧ ¬ ((1 ≤ am ∧ am ≤ 1000000) ∧ (0 ≤ f ∧ f ≤ 400) ∧ (f ≤ z ∧ z ≤ 400))) ∧ M2 = M) ∨ (r = (-2000000073) ∧ (((0 ≤ n ∧ n < 5) ∧ (0 ≤ y ∧ y < 4)) ∧ ((1 ≤ am ∧ am ≤ 1000000) ∧ (0 ≤ f ∧ f ≤ 400) ∧ (f ≤ z ∧ z ≤ 400)) ∧ (¬ S.1 5 0 < 20 ∨ (S.1 3 n.toNatClampNeg).toInt64 < exw S n y bu am z)) ∧ M2 = M) ∨ (r = S.1 5 0 ∧ (((0 ≤ n ∧ n < 5) ∧ (0 ≤ y ∧ y < 4)) ∧ ((1 ≤ am ∧ am ≤ 1000000) ∧ (0 ≤ f ∧ f ≤ 400) ∧ (f ≤ z ∧ z ≤ 400)) ∧ S.1 5 0 < 20 ∧ ¬ (S.1 3 n.toNatClampNeg).toInt64 < exw S n y bu am z) ∧ ∃ q, WA G (ndS S n y bu am f z) T th o ex (u2 ad 11 (ndl S) q) M2)) (Bm G (fun M2 => M2)) (AG G)) (7) (43) (AG G) := by
  refine m_metc (hh := [(0, 15, 18, 14), (0, 15, 23, 17), (0, 15, 28, 27)]) [.ref (ad 0 0), .int n, .int y, .int bu, .int am, .int f, .int z] [(0, .ref (ad 0 0)), (1, .int n), (2, .int y), (3, .int bu), (4, .int am), (5, .int f), (6, .int z)] (by decide) rfl rfl (Nat.le_of_ble_eq_true rfl) ?_
  intro p e s m below meth c ls hx hb hr hml hown hts hlocks hin hT hC hM hl hS
  have f0 : M (ad 0 0) = some (.inr (5, [.ref (ad 1 0), .ref (ad 3 0), .ref (ad 5 0), .ref (ad 10 0), .int (S.1 5 0)])) := hw.1 0 0 _ rfl
  refine lv_aload_n hx hb dL_deal_0 rfl (lv_at hl 0 rfl) ?_
  refine lv_iload_n hx hb dL_deal_1 rfl (lv_at hl 1 rfl) ?_
  refine lv_iload_n hx hb dL_deal_2 rfl (lv_at hl 2 rfl) ?_
  refine lv_iload_n hx hb dL_deal_3 rfl (lv_at hl 3 rfl) ?_
  refine lv_iload hx hb dL_deal_4 (lv_at hl 4 rfl) ?_
  refine lv_iload hx hb dL_deal_6 (lv_at hl 5 rfl) ?_
  refine lv_iload hx hb dL_deal_8 (lv_at hl 6 rfl) ?_
  refine kx_i (vx_runV (As := [.int n, .int y, .int bu, .int am, .int f, .int z]) (rest := []) ⟨hx, hb, hml, hown, hts⟩ (c_X5_deal hnt l G M S T th o ex ad n y bu am f z hw hi hbu) (cwV 6 hts gL_deal_X5_deal rfl rfl rfl (by decide +kernel) ⟨Nat.le_of_ble_eq_true rfl, Nat.le_of_ble_eq_true rfl⟩) (preV_of hC hS hM f0 rfl) rfl rfl hl.1 rfl (lv_room (Nat.le_of_ble_eq_true rfl)) dL_deal_10 ⟨Nat.le_of_ble_eq_true rfl, Nat.le_of_ble_eq_true rfl⟩) hS (fun E ce q9 H locs hE hM hS h1 h2 h3 => ?_) (fun r10 u10 H locs hp10 hM hS => ?_)
  · rcases hE with ⟨rfl, z9⟩ | ⟨rfl, z9⟩ | ⟨rfl, z9⟩
    · refine vx_catch (own := RL) (name := IO) hown [] ⟨0, 15, 18, 14⟩ [⟨0, 15, 23, 17⟩, ⟨0, 15, 28, 27⟩] (by rw [hT]; rfl) (fun z hz => absurd hz List.not_mem_nil) (by decide) (by decide) (hts (.classLink RL 14 IO) (by decide +kernel)) (xc_use hC (by decide)) h1 h2 h3 ?_
      show W p l e _ s m _ below meth c _ _ _ _ _ (F0 m 18 ls [.ref q9])
      refine lv_astore (lv' := [(8, .ref q9), (0, .ref (ad 0 0)), (1, .int n), (2, .int y), (3, .int bu), (4, .int am), (5, .int f), (6, .int z)]) hx hb dL_deal_18 hl (by decide) rfl (fun ls hl => ?_)
      refine lv_ldc (own := RL) (v := (-2000000071)) hx hb hown (hts (.constant RL 16 (-2000000071)) (by decide +kernel)) dL_deal_20 ?_
      exact (r_i hx hb hr hlocks hS (v := (-2000000071)) _ (Or.inl (⟨rfl, z9, rfl⟩)) hM (Nat.le_of_ble_eq_true rfl) (Nat.le_of_ble_eq_true rfl) dL_deal_22)
    · refine vx_catch (own := RL) (name := IA) hown [⟨0, 15, 18, 14⟩] ⟨0, 15, 23, 17⟩ [⟨0, 15, 28, 27⟩] (by rw [hT]; rfl) (fun z hz => by rw [List.mem_singleton.mp hz]; exact Or.inr ⟨by decide, IO, hts (.classLink RL 14 IO) (by decide +kernel), hC.2.2.2.2.2.1 (IA, IO) (by decide)⟩) (by decide) (by decide) (hts (.classLink RL 17 IA) (by decide +kernel)) (xc_use hC (by decide)) h1 h2 h3 ?_
      show W p l e _ s m _ below meth c _ _ _ _ _ (F0 m 23 ls [.ref q9])
      refine lv_astore (lv' := [(8, .ref q9), (0, .ref (ad 0 0)), (1, .int n), (2, .int y), (3, .int bu), (4, .int am), (5, .int f), (6, .int z)]) hx hb dL_deal_23 hl (by decide) rfl (fun ls hl => ?_)
      refine lv_ldc (own := RL) (v := (-2000000072)) hx hb hown (hts (.constant RL 19 (-2000000072)) (by decide +kernel)) dL_deal_25 ?_
      exact (r_i hx hb hr hlocks hS (v := (-2000000072)) _ (Or.inr (Or.inl (⟨rfl, z9, rfl⟩))) hM (Nat.le_of_ble_eq_true rfl) (Nat.le_of_ble_eq_true rfl) dL_deal_27)
    · refine vx_catch (own := RL) (name := IS) hown [⟨0, 15, 18, 14⟩, ⟨0, 15, 23, 17⟩] ⟨0, 15, 28, 27⟩ [] (by rw [hT]; rfl) (fun z hz => (List.mem_cons.mp hz).elim (fun hz => by rw [hz]; exact Or.inr ⟨by decide, IO, hts (.classLink RL 14 IO) (by decide +kernel), hC.2.2.2.2.2.1 (IS, IO) (by decide)⟩) (fun hz => by rw [List.mem_singleton.mp hz]; exact Or.inr ⟨by decide, IA, hts (.classLink RL 17 IA) (by decide +kernel), hC.2.2.2.2.2.1 (IS, IA) (by decide)⟩)) (by decide) (by decide) (hts (.classLink RL 27 IS) (by decide +kernel)) (xc_use hC (by decide)) h1 h2 h3 ?_
      show W p l e _ s m _ below meth c _ _ _ _ _ (F0 m 28 ls [.ref q9])
      refine lv_astore (lv' := [(8, .ref q9), (0, .ref (ad 0 0)), (1, .int n), (2, .int y), (3, .int bu), (4, .int am), (5, .int f), (6, .int z)]) hx hb dL_deal_28 hl (by decide) rfl (fun ls hl => ?_)
      refine lv_ldc (own := RL) (v := (-2000000073)) hx hb hown (hts (.constant RL 29 (-2000000073)) (by decide +kernel)) dL_deal_30 ?_
      exact (r_i hx hb hr hlocks hS (v := (-2000000073)) _ (Or.inr (Or.inr (Or.inl (⟨rfl, z9, rfl⟩)))) hM (Nat.le_of_ble_eq_true rfl) (Nat.le_of_ble_eq_true rfl) dL_deal_32)
  obtain ⟨c90, c91, c92, c93, er, q9, hw9⟩ := hp10
  subst er
  have hM : Hm G u10 H := hM
  refine lv_istore (lv' := [(7, .int (S.1 5 0)), (0, .ref (ad 0 0)), (1, .int n), (2, .int y), (3, .int bu), (4, .int am), (5, .int f), (6, .int z)]) hx hb dL_deal_13 hl (by decide) rfl (fun ls hl => ?_)
  refine lv_goto (tgt := 33) hx hb dL_deal_15 (by decide) ?_
  refine lv_iload hx hb dL_deal_33 (lv_at hl 0 rfl) ?_
  exact (r_i hx hb hr hlocks hS (v := (S.1 5 0)) _ (Or.inr (Or.inr (Or.inr (⟨rfl, ⟨c90, c91, c92, c93⟩, q9, hw9⟩)))) hM (Nat.le_of_ble_eq_true rfl) (Nat.le_of_ble_eq_true rfl) dL_deal_35)
