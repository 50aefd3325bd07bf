/-! the script's cells -/
def PreX (G : Gx) (M : Mp) (b L : Nat) (xs : Nat → Int32) : State → Prop := fun U => Pre G M U ∧ va_X b L xs U U.heap ∧ b < U.heap.size
def Cvx (G : Gx) (M : Mp) (b L : Nat) (xs : Nat → Int32) (avs : List Value) : Array Value → State → Prop := va_Pc avs (PreX G M b L xs)
theorem preX_of {G : Gx} {M : Mp} {avs : List Value} {s : State} {H : Heap} {locs : List Loc} {b L : Nat} {xs : Nat → Int32} (hC : Cx G s) (hS : va_S (AG G) s.heap H locs) (hM : Hm G M H) (hX : va_X b L xs s s.heap) (hbl : b < s.heap.size) (hbA : ¬ AG G b) : PreS s H (Cvx G M b L xs avs) avs :=
  ⟨fun _ U _ _ q => ⟨q.1, ⟨Cx.at (H := U.heap) q.2.1.1 va_S.rf rfl (State.WarmedH.refl U), q.2.1.2⟩, va_X.moved (Vm.Alike.refl U.vm) q.2.2.1, q.2.2.2⟩,
   fun U hU hW => ⟨rfl, ⟨hC.at hS hU hW, by rw [hU]; exact hM⟩, by rw [hU]; exact (hX.kept (hS.2.1 b hbl hbA)).moved hW.alike, by rw [hU]; exact Nat.lt_of_lt_of_le hbl hS.1⟩⟩
theorem m_mets {l : Launch} {y : MethodName} {ws ws' : List Cond} {rm : Room} {Qc : Array Value → State → Outcome → State → Prop} {mc ms : Nat} {free : Addr → Prop} {cc : ByteArray} {maxL : Nat} {ret : Option FieldType} {G : Gx} {M : Mp} {b L : Nat} {xs : Nat → Int32} (avs : List Value) (lv : List (Nat × Value))
    (hy : plainName y.cls = true) (hw : ws = Cond.code y cc maxL ret :: ws') (hlv : lv_args 0 avs = lv) (hlen : (lg_sl avs).length ≤ maxL)
    (body : ∀ (p : Program) (e : Env) (s : State) (m : MethodId) (below : List Frame) (meth : Method) (c : Code) (ls : Array Slot), p.tables.exec = Jvm.exec → c.code = cc → meth.sig.returnType = ret → c.maxLocals = maxL → s.vm.findClass y.cls = some m.cls → (∀ w ∈ ws, w.before avs.toArray s = true) → meth.locks = false → meth.name = y.name → Cx G s → Hm G M s.heap → va_X b L xs s s.heap → b < s.heap.size → lv_has ls maxL lv →
      va_S (AG G) s.heap s.heap [] → W p l e rm s m avs.toArray below meth c s.heap [] 0 0 (MQ below Qc avs.toArray s mc ms free) (F0 m 0 ls [])) : Met l y ws rm (Cvx G M b L xs avs) Qc mc ms free := by
  refine Met.ofW (cc := cc) (maxL := maxL) (ret := ret) hy hw ?_
  intro p e s m args below meth c s₁ B hml hv
  obtain ⟨rfl, ⟨hC, hM⟩, hX, hbl⟩ := hv
  rw [lg_entry_eq]
  have hl := lv_entry avs (n := maxL) hlen
  rw [hlv] at hl
  exact body p e s m below meth c _ B.exec B.bytes B.returns hml (findClass_of_methodNamed B.named) (atoms_spec (ws := ws) B.pre) B.notSynchronized (name_of_methodNamed B.named B.method).1 hC hM hX hbl hl va_S.rf
set_option maxHeartbeats 4000000 in
set_option maxRecDepth 100000 in
theorem c_L_cell (l : Launch) (G : Gx) (M : Mp) (b L : Nat) (xs : Nat → Int32) (j : Nat) (hbG : b < G.2.2) (hL : L ≤ 260) (hj : j < 1000) : Met l yL_cell wsL_cell ({ frames := 0, cells := 0, slots := 0, locals := 0 }) (Cvx G M b L xs [.ref b, .int (nI j)]) (va_Qi (S := Unit) (fun r _ => True) (Bm G (fun _ => M)) (AG G)) (0) (0) (AG G) := by
  refine m_mets [.ref b, .int (nI j)] [(0, .ref b), (1, .int (nI j))] (by decide) rfl rfl (Nat.le_of_ble_eq_true rfl) ?_
  intro p e s m below meth c ls hx hb hr hml hown hts hlocks hin hC hM hX hbl hl hS
  have hbA : ¬ AG G b := Nat.not_le.mpr hbG
  refine lv_iload_n hx hb dL_cell_0 rfl (lv_at hl 1 rfl) ?_
  refine lv_aload_n hx hb dL_cell_1 rfl (lv_at hl 0 rfl) ?_
  refine va_slen hx hb hX hbl hbA hS dL_cell_2 ?_
  refine lv_icmp_ge (tgt := 12) hx hb dL_cell_3 (by decide) (fun c_3 => ?_) (fun c_3 => ?_)
  · refine lv_ldc (own := RL) (v := 1138477045) hx hb hown (hts (.constant RL 7 1138477045) (by decide +kernel)) dL_cell_12 ?_
    refine lv_iload_n hx hb dL_cell_14 rfl (lv_at hl 1 rfl) ?_
    refine lv_iconst (v := 4) hx hb dL_cell_15 (by decide) ?_
    refine lv_iadd hx hb dL_cell_16 ?_
    refine lv_imul hx hb dL_cell_17 ?_
    exact (r_i hx hb hr hlocks hS (v := (1138477045 * ((nI j) + 4))) () trivial hM (Nat.le_of_ble_eq_true rfl) (Nat.le_of_ble_eq_true rfl) dL_cell_18)
  · refine lv_aload_n hx hb dL_cell_6 rfl (lv_at hl 0 rfl) ?_
    refine lv_iload_n hx hb dL_cell_7 rfl (lv_at hl 1 rfl) ?_
    refine va_sld hx hb hX hbl hbA hS (vp_in_nI (n := j) (Nat.lt_of_not_le (fun q => c_3 (nI_le q (by omega)))) (by omega)) dL_cell_8 ?_
    refine lv_goto (tgt := 18) hx hb dL_cell_9 (by decide) ?_
    exact (r_i hx hb hr hlocks hS (v := (xs (nI j).toNatClampNeg)) () trivial hM (Nat.le_of_ble_eq_true rfl) (Nat.le_of_ble_eq_true rfl) dL_cell_18)
