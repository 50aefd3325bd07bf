/-! THE HEAP AS A MAP: what is known of the cells at and above G.2.2 -/
abbrev Gx : Type := va_G × (Nat → ClassId) × Nat
abbrev Mp : Type := Nat → Option va_E
def tyG (G : Gx) : List (ClassId × FieldType) := [(G.2.1 0, .int), (G.2.1 1, .long), (G.2.1 2, .boolean), (G.2.1 3, .object RX2), (G.2.1 4, .object RX3), (G.2.1 5, .object RX0), (G.2.1 6, .object RX4)]
def AG (G : Gx) : Nat → Prop := fun q => G.2.2 ≤ q
def Hm (G : Gx) (M : Mp) (H : Heap) : Prop := ∃ ws : va_W, va_P G.1 vwCl ws H ∧ va_D (AG G) ws ∧ ∀ a e, M a = some e → ∃ k : Nat, ws[k]? = some (a, e)
theorem Hm.lt {G : Gx} {M : Mp} {H : Heap} (h : Hm G M H) {a : Nat} {e : va_E} (ha : M a = some e) : a < H.size := by
  obtain ⟨ws, hP, hD, hk⟩ := h
  obtain ⟨k, he⟩ := hk a e ha
  exact (hP k _ he).lt
theorem Hm.ge {G : Gx} {M : Mp} {H : Heap} (h : Hm G M H) {a : Nat} {e : va_E} (ha : M a = some e) : G.2.2 ≤ a := by
  obtain ⟨ws, hP, hD, hk⟩ := h
  obtain ⟨k, he⟩ := hk a e ha
  exact hD.2 k _ he
theorem Hm.mono {G : Gx} {M M' : Mp} {H : Heap} (h : Hm G M H) (hm : ∀ a e, M' a = some e → M a = some e) : Hm G M' H := by
  obtain ⟨ws, hP, hD, hk⟩ := h
  exact ⟨ws, hP, hD, fun a e ha => hk a e (hm a e ha)⟩
theorem Hm.kept {G : Gx} {M : Mp} {H H1 : Heap} (h : Hm G M H) (hq : ∀ q : Nat, q < H.size → H1[q]? = H[q]?) : Hm G M H1 := by
  obtain ⟨ws, hP, hD, hk⟩ := h
  exact ⟨ws, hP.kept (fun k q hkq => hq _ (hP k q hkq).lt), hD, hk⟩
theorem Hm.nil {G : Gx} {H : Heap} : Hm G (fun _ => none) H := ⟨[], fun k q h => by simp at h, ⟨fun i j p q h => by simp at h, fun k q h => by simp at h⟩, fun a e h => by cases h⟩
theorem Hm.set {G : Gx} {M : Mp} {H1 : Heap} {ws : va_W} {k : Nat} {a : Nat} {e0 e1 : va_E} (hD : va_D (AG G) ws) (hk : ∀ a e, M a = some e → ∃ k : Nat, ws[k]? = some (a, e)) (he : ws[k]? = some (a, e0)) (hP1 : va_P G.1 vwCl (ws.set k (a, e1)) H1) (hD1 : va_D (AG G) (ws.set k (a, e1))) : Hm G (va_up M a (some e1)) H1 := by
  refine ⟨_, hP1, hD1, fun b f hf => ?_⟩
  have hl := (List.getElem?_eq_some_iff.mp he).1
  by_cases hb : b = a
  · subst hb
    have : f = e1 := by simp [va_up] at hf; exact hf.symm
    subst this
    exact ⟨k, List.getElem?_set_self hl⟩
  · have hf' : M b = some f := by simpa [va_up, hb] using hf
    obtain ⟨k2, hk2⟩ := hk b f hf'
    refine ⟨k2, ?_⟩
    rw [List.getElem?_set_ne]
    · exact hk2
    · intro h
      subst h
      rw [he] at hk2
      cases hk2
      exact hb rfl
theorem Hm.push {G : Gx} {M : Mp} {H1 : Heap} {ws : va_W} {q : Nat} {e1 : va_E} (hk : ∀ a e, M a = some e → ∃ k : Nat, ws[k]? = some (a, e)) (hP1 : va_P G.1 vwCl (ws ++ [(q, e1)]) H1) (hD1 : va_D (AG G) (ws ++ [(q, e1)])) : M q = none ∧ Hm G (va_up M q (some e1)) H1 := by
  have hz : (ws ++ [(q, e1)])[ws.length]? = some (q, e1) := by simp
  have hn : M q = none := by
    cases h : M q with
    | none => rfl
    | some f =>
      obtain ⟨k, hk2⟩ := hk q f h
      have hl := (List.getElem?_eq_some_iff.mp hk2).1
      have h2 : (ws ++ [(q, e1)])[k]? = some (q, f) := by rw [List.getElem?_append_left hl]; exact hk2
      have := hD1.1 k ws.length _ _ h2 hz rfl
      omega
  refine ⟨hn, _, hP1, hD1, fun b f hf => ?_⟩
  by_cases hb : b = q
  · subst hb
    have : f = e1 := by simp [va_up] at hf; exact hf.symm
    subst this
    exact ⟨_, hz⟩
  · have hf' : M b = some f := by simpa [va_up, hb] using hf
    obtain ⟨k2, hk2⟩ := hk b f hf'
    refine ⟨k2, ?_⟩
    rw [List.getElem?_append_left (List.getElem?_eq_some_iff.mp hk2).1]
    exact hk2
theorem up_eq {M : Mp} {a : Nat} {x : Option va_E} : va_up M a x a = x := by simp [va_up]
theorem up_ne {M : Mp} {a b : Nat} {x : Option va_E} (h : b ≠ a) : va_up M a x b = M b := by simp [va_up, h]
/-! what every method is given -/
def XW : List Cond := [
  .fieldLinkNest RX5 54 RX1 "today" "I" RX5, .fieldLinkNest RX5 125 RX2 "number" "I" RX5, .fieldLinkNest RX5 47 RX2 "spotRate" "I" RX5, .fieldLinkNest RX5 51 RX2 "points" "I" RX5,
  .fieldLinkNest RX5 73 RX3 "limit" "I" RX5, .fieldLinkNest RX5 180 RX3 "balances" "LForwardroll$Amounts;" RX5, .fieldLinkNest RX5 117 RX4 "customer" "LForwardroll$Customer;" RX5, .fieldLinkNest RX5 121 RX4 "currency" "LForwardroll$Currency;" RX5,
  .fieldLinkNest RX5 128 RX4 "buys" "Z" RX5, .fieldLinkNest RX5 103 RX4 "amountLeft" "I" RX5, .fieldLinkNest RX5 155 RX4 "agreedRate" "I" RX5, .fieldLinkNest RX5 162 RX4 "firstDay" "I" RX5, .fieldLinkNest RX5 140 RX4 "lastDay" "I" RX5,
  .methodLinkNest RX5 11 yX1_init RX5, .methodLinkNest RX5 31 yX3_init RX5, .methodLinkNest RX3 22 yX0_init RX5, .methodLinkNest RX1 15 yX5_isIndex RX5, .methodLinkNest RX4 58 yX5_homeAmount RX5, .methodLinkNest RX3 27 yX5_isIndex RX5, .methodLinkNest RX0 15 yX5_isIndex RX5]
def XC : List Cond := [.castable "java/lang/IndexOutOfBoundsException" "java/lang/IndexOutOfBoundsException", .castable "java/lang/IllegalArgumentException" "java/lang/IllegalArgumentException", .castable "java/lang/IllegalStateException" "java/lang/IllegalStateException",
  .declares (Bundle.initS Bundle.tN), .declares (Bundle.initS "java/lang/Exception"), .declares (Bundle.initS "java/lang/RuntimeException")]
def XS : List (Nat × String) := [(199, "no such currency"), (208, "an argument is out of range"), (59, "the day is not later than today"), (202, "no such customer"), (88, "there have been as many deals as there can be"), (97, "the exposure would be greater than the limit"), (204, "no such deal"), (211, "nothing is left of the deal"), (143, "the last day would be too late"), (189, "today would be too late")]
def XN : List (String × String) := [("java/lang/IllegalArgumentException", "java/lang/IndexOutOfBoundsException"), ("java/lang/IllegalStateException", "java/lang/IndexOutOfBoundsException"), ("java/lang/IllegalStateException", "java/lang/IllegalArgumentException")]
def Cx (G : Gx) (U : State) : Prop := G.2.2 ≤ U.heap.size ∧ va_K G.1 vwCl (tyG G) U ∧ (∀ w ∈ XW, va_Nw w U) ∧ (∀ w ∈ XC, va_Nw w U) ∧ (∀ q ∈ XS, ∃ sa, vk_R RX5 q.1 q.2 sa U) ∧ (∀ q ∈ XN, va_Nc q.1 q.2 U) ∧ (∀ C ∈ [RX0, RX2, RX3, RX4], va_AO C U) ∧
  vx_Zq Bundle.tN "UNASSIGNED_STACK" Bundle.steD (AG G) U U.heap ∧ vx_Zq Bundle.tN "SUPPRESSED_SENTINEL" Bundle.listD (AG G) U U.heap
theorem warm_any {w : Cond} (h1 : w.onTables = true) (h2 : w.warmB w.codeNames = true) {s U : State} (hW : s.WarmedH U.vm) (h : va_Nw w s) : va_Nw w U := va_tabs h1 (rfl : (s.setVm U.vm).vm = U.vm) (Cond.pre_warmed hW h2 h)
theorem Cx.at {G : Gx} {s U : State} {H : Heap} {locs : List Loc} (h : Cx G s) (hS : va_S (AG G) s.heap H locs) (hU : U.heap = H) (hW : s.WarmedH U.vm) : Cx G U := by
  obtain ⟨h0, hK, h1, h2, h3, h4, h5, h6, h7⟩ := h
  refine ⟨by rw [hU]; exact Nat.le_trans h0 hS.1, hK.moved hW.alike, fun w hw => ?_, fun w hw => ?_, fun q hq => ?_, fun q hq => (h4 q hq).moved hW.alike, fun C hC => (h5 C hC).moved hW.alike, ?_, ?_⟩
  · have hh := h1 w hw
    simp only [XW, List.mem_cons, List.not_mem_nil, or_false] at hw
    rcases hw with rfl | rfl | rfl | rfl | rfl | rfl | rfl | rfl | rfl | rfl | rfl | rfl | rfl | rfl | rfl | rfl | rfl | rfl | rfl | rfl <;> first | exact va_Nw.warmF hW hh | exact va_Nw.warmM hW hh
  · have hh := h2 w hw
    refine warm_any ?_ ?_ hW hh
    · exact List.all_eq_true.mp (by decide +kernel : XC.all (fun w => w.onTables) = true) w hw
    · exact List.all_eq_true.mp (by decide +kernel : XC.all (fun w => w.warmB w.codeNames) = true) w hw
  · obtain ⟨sa, h⟩ := h3 q hq
    exact ⟨sa, h.warm hW⟩
  · rw [hU]; exact (h6.kept hS.2.1).moved hW.alike
  · rw [hU]; exact (h7.kept hS.2.1).moved hW.alike
theorem Cx.k {G : Gx} {s : State} (h : Cx G s) : va_K G.1 vwCl (tyG G) s := h.2.1
theorem Cx.w {G : Gx} {s : State} (h : Cx G s) {w : Cond} (i : Nat) (hw : XW[i]? = some w) : va_Nw w s := h.2.2.1 w (List.mem_of_getElem? hw)
def Pre (G : Gx) (M : Mp) : State → Prop := fun U => Cx G U ∧ Hm G M U.heap
def Cv (G : Gx) (M : Mp) (avs : List Value) : Array Value → State → Prop := va_Pc avs (Pre G M)
theorem pre_blind {G : Gx} {M : Mp} {avs : List Value} : FrameBlind (Cv G M avs) := fun _ U _ _ q => ⟨q.1, Cx.at (H := U.heap) q.2.1 va_S.rf rfl (State.WarmedH.refl U), q.2.2⟩
theorem preS_of {G : Gx} {M : Mp} {avs : List Value} {s : State} {H : Heap} {locs : List Loc} (hC : Cx G s) (hS : va_S (AG G) s.heap H locs) (hM : Hm G M H) : PreS s H (Cv G M avs) avs := ⟨pre_blind, fun U hU hW => ⟨rfl, hC.at hS hU hW, by rw [hU]; exact hM⟩⟩
theorem preV_of {G : Gx} {M : Mp} {b : Nat} {As : List Value} {s : State} {H : Heap} {locs : List Loc} {ci : Nat} {fs : List Value} {C : String} {T : u_T} {N : Nat} (hC : Cx G s) (hS : va_S (AG G) s.heap H locs) (hM : Hm G M H) (hb : M b = some (.inr (ci, fs))) (hcl : vwCl[ci]? = some (C, T, N)) : PreV s H C b (Cv G M (.ref b :: As)) As := by
  refine ⟨pre_blind, ?_, fun U hU hW => ⟨rfl, hC.at hS hU hW, by rw [hU]; exact hM⟩⟩
  obtain ⟨ws, hP, hD, hk⟩ := hM
  obtain ⟨k, he⟩ := hk _ _ hb
  exact va_recv hC.k hP hcl he
/-! a body from its start -/
theorem m_met {l : Launch} {y : MethodName} {ws ws' : List Cond} {rm : Room} {Qc : Array Value → State → Outcome → State → Prop} {mc ms : Nat} {free : Addr → Prop} {cc : ByteArray} {maxL : Nat} {ret : Option FieldType} {G : Gx} {M : Mp} (avs : List Value) (lv : List (Nat × Value))
    (hy : plainName y.cls = true) (hw : ws = Cond.code y cc maxL ret :: ws') (hlv : lv_args 0 avs = lv) (hlen : (lg_sl avs).length ≤ maxL)
    (body : ∀ (p : Program) (e : Env) (s : State) (m : MethodId) (below : List Frame) (meth : Method) (c : Code) (ls : Array Slot), p.tables.exec = Jvm.exec → c.code = cc → meth.sig.returnType = ret → c.maxLocals = maxL → s.vm.findClass y.cls = some m.cls → (∀ w ∈ ws, w.before avs.toArray s = true) → meth.locks = false → meth.name = y.name → Cx G s → Hm G M s.heap → lv_has ls maxL lv →
      va_S (AG G) s.heap s.heap [] → W p l e rm s m avs.toArray below meth c s.heap [] 0 0 (MQ below Qc avs.toArray s mc ms free) (F0 m 0 ls [])) : Met l y ws rm (Cv G M avs) Qc mc ms free := by
  refine Met.ofW (cc := cc) (maxL := maxL) (ret := ret) hy hw ?_
  intro p e s m args below meth c s₁ B hml hv
  obtain ⟨rfl, hC, hM⟩ := hv
  rw [lg_entry_eq]
  have hl := lv_entry avs (n := maxL) hlen
  rw [hlv] at hl
  exact body p e s m below meth c _ B.exec B.bytes B.returns hml (findClass_of_methodNamed B.named) (atoms_spec (ws := ws) B.pre) B.notSynchronized (name_of_methodNamed B.named B.method).1 hC hM hl va_S.rf
theorem m_metx {l : Launch} {y : MethodName} {ws ws' : List Cond} {rm : Room} {Qc : Array Value → State → Outcome → State → Prop} {XCt : String → State → State → Prop} {mc ms : Nat} {free : Addr → Prop} {cc : ByteArray} {maxL : Nat} {ret : Option FieldType} {G : Gx} {M : Mp} (avs : List Value) (lv : List (Nat × Value))
    (hy : plainName y.cls = true) (hw : ws = Cond.code y cc maxL ret :: ws') (hlv : lv_args 0 avs = lv) (hlen : (lg_sl avs).length ≤ maxL)
    (body : ∀ (p : Program) (e : Env) (s : State) (m : MethodId) (below : List Frame) (meth : Method) (c : Code) (ls : Array Slot), p.tables.exec = Jvm.exec → c.code = cc → meth.sig.returnType = ret → c.maxLocals = maxL → s.vm.findClass y.cls = some m.cls → (∀ w ∈ ws, w.before avs.toArray s = true) → meth.locks = false → meth.name = y.name → (∀ x ∈ c.exceptionTable.toList, False) → Cx G s → Hm G M s.heap → lv_has ls maxL lv →
      va_S (AG G) s.heap s.heap [] → W p l e rm s m avs.toArray below meth c s.heap [] 0 0 (vx_MQ below Qc XCt avs.toArray s mc ms free) (F0 m 0 ls [])) : vx_Met l y ws rm (Cv G M avs) Qc XCt mc ms free := by
  refine vx_ofW (cc := cc) (maxL := maxL) (ret := ret) hy hw ?_
  intro p e s m args below meth c s₁ B hml ht hv
  obtain ⟨rfl, hC, hM⟩ := hv
  rw [lg_entry_eq]
  have hl := lv_entry avs (n := maxL) hlen
  rw [hlv] at hl
  exact body p e s m below meth c _ B.exec B.bytes B.returns hml (findClass_of_methodNamed B.named) (atoms_spec (ws := ws) B.pre) B.notSynchronized (name_of_methodNamed B.named B.method).1 ht hC hM hl va_S.rf
section MK
variable {p : Program} {l : Launch} {e : Env} {R : Room} {s : State} {m : MethodId} {args : Array Value} {below : List Frame} {meth : Method} {c : Code} {H : Heap} {locs : List Loc} {cells slots : Nat} {Q : State → Prop}
variable {cc : ByteArray} {pc : Nat} {ls : Array Slot} {rest : List Value} {G : Gx} {M : Mp} {H0 : Heap} {a : Nat}

theorem m_get (hexec : p.tables.exec = Jvm.exec) (hb : c.code = cc) {own ref C : String} {T : u_T} {N ci index : Nat} {Ts : List Cond} (hts : ∀ w ∈ Ts, w.before args s = true) (hin : ∀ w ∈ u_ws C T N, w ∈ Ts) (hown : s.vm.findClass own = some m.cls) (hC : Cx G s) (hM : Hm G M H) {fs : List Value} (he : M a = some (.inr (ci, fs))) (hc : vwCl[ci]? = some (C, T, N)) (k : Nat) (hk : k < N) (hlink : (Cond.fieldLink own index ref (T k).2.1 (T k).2.2.1).before args s = true) (hsame : ∀ x, s.fieldFound? (T k).1 (T k).2.1 (T k).2.2.1 = some x → s.fieldFound? ref (T k).2.1 (T k).2.2.1 = some x) {v : Value} (hv : fs[k]? = some v) (hdg : decode cc pc = .ok (.getfield index, 3))
    (kk : W p l e R s m args below meth c H locs cells slots Q (F0 m (pc + 3) ls (v :: rest))) : W p l e R s m args below meth c H locs cells slots Q (F0 m pc ls (.ref a :: rest)) := by
  obtain ⟨ws, hP, hD, hq⟩ := hM
  obtain ⟨q, hq⟩ := hq _ _ he
  exact va_get hexec hb hts hin hown hC.k hP q hq hc k hk hlink hsame hv hdg kk
theorem m_getN (hexec : p.tables.exec = Jvm.exec) (hb : c.code = cc) {own ref C host : String} {T : u_T} {N ci index : Nat} {Ts : List Cond} (hts : ∀ w ∈ Ts, w.before args s = true) (hin : ∀ w ∈ u_ws C T N, w ∈ Ts) (hown : s.vm.findClass own = some m.cls) (hC : Cx G s) (hM : Hm G M H) {fs : List Value} (he : M a = some (.inr (ci, fs))) (hc : vwCl[ci]? = some (C, T, N)) (k : Nat) (hk : k < N) (hlink : va_Nw (.fieldLinkNest own index ref (T k).2.1 (T k).2.2.1 host) s) (hsame : ∀ x, s.fieldFound? (T k).1 (T k).2.1 (T k).2.2.1 = some x → s.fieldFound? ref (T k).2.1 (T k).2.2.1 = some x) {v : Value} (hv : fs[k]? = some v) (hdg : decode cc pc = .ok (.getfield index, 3))
    (kk : W p l e R s m args below meth c H locs cells slots Q (F0 m (pc + 3) ls (v :: rest))) : W p l e R s m args below meth c H locs cells slots Q (F0 m pc ls (.ref a :: rest)) := by
  obtain ⟨ws, hP, hD, hq⟩ := hM
  obtain ⟨q, hq⟩ := hq _ _ he
  exact va_getN hexec hb hts hin hown hC.k hP q hq hc k hk (va_Nw.use rfl hlink) hsame hv hdg kk
theorem m_put (hexec : p.tables.exec = Jvm.exec) (hb : c.code = cc) {own ref C host : String} {T : u_T} {N ci index : Nat} {Ts : List Cond} (hts : ∀ w ∈ Ts, w.before args s = true) (hin : ∀ w ∈ u_ws C T N, w ∈ Ts) (ty0 : Nat → FieldType) (hty : ∀ k, k < N → parseFieldDescriptor (T k).2.2.1 = some (ty0 k)) (hnm : ∀ a, a < N → ∀ b, b < N → a ≠ b → (T a).2.1 ≠ (T b).2.1) (hown : s.vm.findClass own = some m.cls) (hC : Cx G s) (hM : Hm G M H) (hS0 : va_S (AG G) H0 H locs) {fs : List Value} (he : M a = some (.inr (ci, fs))) (hc : vwCl[ci]? = some (C, T, N)) (k : Nat) (hk : k < N) (hlink : (Cond.fieldLink own index ref (T k).2.1 (T k).2.2.1).before args s = true) (hsame : ∀ x, s.fieldFound? (T k).1 (T k).2.1 (T k).2.2.1 = some x → s.fieldFound? ref (T k).2.1 (T k).2.2.1 = some x) (hfin : (T k).2.2.2 = false) {ty : FieldType} {v : Value} (hd : parseFieldDescriptor (T k).2.2.1 = some ty) (hn : narrow ty v = v) (hfit : fits ty v = true) (hl : k < fs.length)
    (hdg : decode cc pc = .ok (.putfield index, 3)) (kk : ∀ (H1 : Heap) (locs1 : List Loc), Hm G (va_up M a (some (.inr (ci, fs.set k v)))) H1 → va_S (AG G) H0 H1 locs1 → W p l e R s m args below meth c H1 locs1 cells slots Q (F0 m (pc + 3) ls rest)) : W p l e R s m args below meth c H locs cells slots Q (F0 m pc ls (v :: .ref a :: rest)) := by
  obtain ⟨ws, hP, hD, hk9⟩ := hM
  obtain ⟨q, hq⟩ := hk9 _ _ he
  exact va_put hexec hb hts hin ty0 hty hnm hown hC.k hP hD hS0 q hq hc k hk hlink hsame hfin hd hn hfit hl hdg (fun H1 locs1 hP1 hD1 hS1 => kk H1 locs1 (Hm.set hD hk9 hq hP1 hD1) hS1)
theorem m_putN (hexec : p.tables.exec = Jvm.exec) (hb : c.code = cc) {own ref C host : String} {T : u_T} {N ci index : Nat} {Ts : List Cond} (hts : ∀ w ∈ Ts, w.before args s = true) (hin : ∀ w ∈ u_ws C T N, w ∈ Ts) (ty0 : Nat → FieldType) (hty : ∀ k, k < N → parseFieldDescriptor (T k).2.2.1 = some (ty0 k)) (hnm : ∀ a, a < N → ∀ b, b < N → a ≠ b → (T a).2.1 ≠ (T b).2.1) (hown : s.vm.findClass own = some m.cls) (hC : Cx G s) (hM : Hm G M H) (hS0 : va_S (AG G) H0 H locs) {fs : List Value} (he : M a = some (.inr (ci, fs))) (hc : vwCl[ci]? = some (C, T, N)) (k : Nat) (hk : k < N) (hlink : va_Nw (.fieldLinkNest own index ref (T k).2.1 (T k).2.2.1 host) s) (hsame : ∀ x, s.fieldFound? (T k).1 (T k).2.1 (T k).2.2.1 = some x → s.fieldFound? ref (T k).2.1 (T k).2.2.1 = some x) (hfin : (T k).2.2.2 = false) {ty : FieldType} {v : Value} (hd : parseFieldDescriptor (T k).2.2.1 = some ty) (hn : narrow ty v = v) (hfit : fits ty v = true) (hl : k < fs.length)
    (hdg : decode cc pc = .ok (.putfield index, 3)) (kk : ∀ (H1 : Heap) (locs1 : List Loc), Hm G (va_up M a (some (.inr (ci, fs.set k v)))) H1 → va_S (AG G) H0 H1 locs1 → W p l e R s m args below meth c H1 locs1 cells slots Q (F0 m (pc + 3) ls rest)) : W p l e R s m args below meth c H locs cells slots Q (F0 m pc ls (v :: .ref a :: rest)) := by
  obtain ⟨ws, hP, hD, hk9⟩ := hM
  obtain ⟨q, hq⟩ := hk9 _ _ he
  exact va_putN hexec hb hts hin ty0 hty hnm hown hC.k hP hD hS0 q hq hc k hk (va_Nw.use rfl hlink) hsame hfin hd hn hfit hl hdg (fun H1 locs1 hP1 hD1 hS1 => kk H1 locs1 (Hm.set hD hk9 hq hP1 hD1) hS1)
theorem m_putF (hexec : p.tables.exec = Jvm.exec) (hb : c.code = cc) {own ref C host : String} {T : u_T} {N ci index : Nat} {Ts : List Cond} (hts : ∀ w ∈ Ts, w.before args s = true) (hin : ∀ w ∈ u_ws C T N, w ∈ Ts) (ty0 : Nat → FieldType) (hty : ∀ k, k < N → parseFieldDescriptor (T k).2.2.1 = some (ty0 k)) (hnm : ∀ a, a < N → ∀ b, b < N → a ≠ b → (T a).2.1 ≠ (T b).2.1) (hown : s.vm.findClass own = some m.cls) (hC : Cx G s) (hM : Hm G M H) (hS0 : va_S (AG G) H0 H locs) {fs : List Value} (he : M a = some (.inr (ci, fs))) (hc : vwCl[ci]? = some (C, T, N)) (k : Nat) (hk : k < N) (hlink : (Cond.fieldLink own index ref (T k).2.1 (T k).2.2.1).before args s = true) (hsame : ∀ x, s.fieldFound? (T k).1 (T k).2.1 (T k).2.2.1 = some x → s.fieldFound? ref (T k).2.1 (T k).2.2.1 = some x) (hfin : (T k).2.2.2 = true) (hin2 : meth.name = "<init>") (hdecl : (T k).1 = own) {ty : FieldType} {v : Value} (hd : parseFieldDescriptor (T k).2.2.1 = some ty) (hn : narrow ty v = v) (hfit : fits ty v = true) (hl : k < fs.length)
    (hdg : decode cc pc = .ok (.putfield index, 3)) (kk : ∀ (H1 : Heap) (locs1 : List Loc), Hm G (va_up M a (some (.inr (ci, fs.set k v)))) H1 → va_S (AG G) H0 H1 locs1 → W p l e R s m args below meth c H1 locs1 cells slots Q (F0 m (pc + 3) ls rest)) : W p l e R s m args below meth c H locs cells slots Q (F0 m pc ls (v :: .ref a :: rest)) := by
  obtain ⟨ws, hP, hD, hk9⟩ := hM
  obtain ⟨q, hq⟩ := hk9 _ _ he
  exact va_putF hexec hb hts hin ty0 hty hnm hown hC.k hP hD hS0 q hq hc k hk hlink hsame hfin hin2 hdecl hd hn hfit hl hdg (fun H1 locs1 hP1 hD1 hS1 => kk H1 locs1 (Hm.set hD hk9 hq hP1 hD1) hS1)
theorem m_iald (hexec : p.tables.exec = Jvm.exec) (hb : c.code = cc) (hC : Cx G s) (hM : Hm G M H) {n : Nat} {f : Nat → Int32} (ha : M a = some (.inl (G.2.1 0, n, .inl f))) {i : Int32} (hin : vp_in i n) (hdg : decode cc pc = .ok (.iaload, 1))
    (kk : W p l e R s m args below meth c H locs cells slots Q (F0 m (pc + 1) ls (.int (f i.toNatClampNeg) :: rest))) : W p l e R s m args below meth c H locs cells slots Q (F0 m pc ls (.int i :: .ref a :: rest)) := by
  obtain ⟨ws, hP, hD, hq⟩ := hM
  obtain ⟨q, hq⟩ := hq _ _ ha
  exact va_iald hexec hb hC.k hP q 0 hq rfl hin hdg kk
theorem m_zald (hexec : p.tables.exec = Jvm.exec) (hb : c.code = cc) (hC : Cx G s) (hM : Hm G M H) {n : Nat} {f : Nat → Int32} (ha : M a = some (.inl (G.2.1 2, n, .inl f))) {i : Int32} (hin : vp_in i n) (hdg : decode cc pc = .ok (.baload, 1))
    (kk : W p l e R s m args below meth c H locs cells slots Q (F0 m (pc + 1) ls (.int (f i.toNatClampNeg) :: rest))) : W p l e R s m args below meth c H locs cells slots Q (F0 m pc ls (.int i :: .ref a :: rest)) := by
  obtain ⟨ws, hP, hD, hq⟩ := hM
  obtain ⟨q, hq⟩ := hq _ _ ha
  exact va_zald hexec hb hC.k hP q 2 hq rfl hin hdg kk
theorem m_lald (hexec : p.tables.exec = Jvm.exec) (hb : c.code = cc) (hC : Cx G s) (hM : Hm G M H) {n : Nat} {f : Nat → Int64} (ha : M a = some (.inl (G.2.1 1, n, .inr (.inl f)))) {i : Int32} (hin : vp_in i n) (hdg : decode cc pc = .ok (.laload, 1))
    (kk : W p l e R s m args below meth c H locs cells slots Q (F0 m (pc + 1) ls (.long (f i.toNatClampNeg) :: rest))) : W p l e R s m args below meth c H locs cells slots Q (F0 m pc ls (.int i :: .ref a :: rest)) := by
  obtain ⟨ws, hP, hD, hq⟩ := hM
  obtain ⟨q, hq⟩ := hq _ _ ha
  exact va_lald hexec hb hC.k hP q 1 hq rfl hin hdg kk
theorem m_aldq (hexec : p.tables.exec = Jvm.exec) (hb : c.code = cc) (hC : Cx G s) (hM : Hm G M H) {n : Nat} {f : Nat → Option Nat} (t0 : Nat) {C : String} (ht : (tyG G)[t0]? = some (G.2.1 t0, .object C)) (ha : M a = some (.inl (G.2.1 t0, n, .inr (.inr (.inr (.inr f)))))) {i : Int32} (hin : vp_in i n) (hdg : decode cc pc = .ok (.aaload, 1))
    (kk : W p l e R s m args below meth c H locs cells slots Q (F0 m (pc + 1) ls (va_rf (f i.toNatClampNeg) :: rest))) : W p l e R s m args below meth c H locs cells slots Q (F0 m pc ls (.int i :: .ref a :: rest)) := by
  obtain ⟨ws, hP, hD, hq⟩ := hM
  obtain ⟨q, hq⟩ := hq _ _ ha
  exact va_aldq hexec hb hC.k hP q t0 hq ht hin hdg kk
theorem m_alen (hexec : p.tables.exec = Jvm.exec) (hb : c.code = cc) (hC : Cx G s) (hM : Hm G M H) {x : vp_A} (t0 : Nat) {ty : FieldType} (ht : (tyG G)[t0]? = some (G.2.1 t0, ty)) (ha : M a = some (.inl (G.2.1 t0, x))) {v : Int32} (hv : Int32.ofNat x.1 = v) (hdg : decode cc pc = .ok (.arraylength, 1))
    (kk : W p l e R s m args below meth c H locs cells slots Q (F0 m (pc + 1) ls (.int v :: rest))) : W p l e R s m args below meth c H locs cells slots Q (F0 m pc ls (.ref a :: rest)) := by
  obtain ⟨ws, hP, hD, hq⟩ := hM
  obtain ⟨q, hq⟩ := hq _ _ ha
  exact va_alen hexec hb hC.k hP q t0 hq ht hv hdg kk
theorem m_iast (hexec : p.tables.exec = Jvm.exec) (hb : c.code = cc) (hC : Cx G s) (hM : Hm G M H) (hS : va_S (AG G) H0 H locs) {n : Nat} {f : Nat → Int32} (ha : M a = some (.inl (G.2.1 0, n, .inl f))) {i : Int32} {x : Int32} (hin : vp_in i n) (hdg : decode cc pc = .ok (.iastore, 1))
    (kk : ∀ (H1 : Heap) (locs1 : List Loc), Hm G (va_up M a (some (.inl (G.2.1 0, n, .inl (upd f i.toNatClampNeg x))))) H1 → va_S (AG G) H0 H1 locs1 → W p l e R s m args below meth c H1 locs1 cells slots Q (F0 m (pc + 1) ls rest)) : W p l e R s m args below meth c H locs cells slots Q (F0 m pc ls (.int x :: .int i :: .ref a :: rest)) := by
  obtain ⟨ws, hP, hD, hk9⟩ := hM
  obtain ⟨q, hq⟩ := hk9 _ _ ha
  exact va_iast hexec hb hC.k hP hD hS q 0 hq rfl hin hdg (fun H1 locs1 hP1 hD1 hS1 => kk H1 locs1 (Hm.set hD hk9 hq hP1 hD1) hS1)
theorem m_zast (hexec : p.tables.exec = Jvm.exec) (hb : c.code = cc) (hC : Cx G s) (hM : Hm G M H) (hS : va_S (AG G) H0 H locs) {n : Nat} {f : Nat → Int32} (ha : M a = some (.inl (G.2.1 2, n, .inl f))) {i : Int32} {x : Int32} (hin : vp_in i n) (hdg : decode cc pc = .ok (.bastore, 1))
    (kk : ∀ (H1 : Heap) (locs1 : List Loc), Hm G (va_up M a (some (.inl (G.2.1 2, n, .inl (upd f i.toNatClampNeg (vp_nar .boolean x)))))) H1 → va_S (AG G) H0 H1 locs1 → W p l e R s m args below meth c H1 locs1 cells slots Q (F0 m (pc + 1) ls rest)) : W p l e R s m args below meth c H locs cells slots Q (F0 m pc ls (.int x :: .int i :: .ref a :: rest)) := by
  obtain ⟨ws, hP, hD, hk9⟩ := hM
  obtain ⟨q, hq⟩ := hk9 _ _ ha
  exact va_zast hexec hb hC.k hP hD hS q 2 hq rfl hin hdg (fun H1 locs1 hP1 hD1 hS1 => kk H1 locs1 (Hm.set hD hk9 hq hP1 hD1) hS1)
theorem m_last (hexec : p.tables.exec = Jvm.exec) (hb : c.code = cc) (hC : Cx G s) (hM : Hm G M H) (hS : va_S (AG G) H0 H locs) {n : Nat} {f : Nat → Int64} (ha : M a = some (.inl (G.2.1 1, n, .inr (.inl f)))) {i : Int32} {x : Int64} (hin : vp_in i n) (hdg : decode cc pc = .ok (.lastore, 1))
    (kk : ∀ (H1 : Heap) (locs1 : List Loc), Hm G (va_up M a (some (.inl (G.2.1 1, n, .inr (.inl (vp_updL f i.toNatClampNeg x)))))) H1 → va_S (AG G) H0 H1 locs1 → W p l e R s m args below meth c H1 locs1 cells slots Q (F0 m (pc + 1) ls rest)) : W p l e R s m args below meth c H locs cells slots Q (F0 m pc ls (.long x :: .int i :: .ref a :: rest)) := by
  obtain ⟨ws, hP, hD, hk9⟩ := hM
  obtain ⟨q, hq⟩ := hk9 _ _ ha
  exact va_last hexec hb hC.k hP hD hS q 1 hq rfl hin hdg (fun H1 locs1 hP1 hD1 hS1 => kk H1 locs1 (Hm.set hD hk9 hq hP1 hD1) hS1)
theorem m_astq (hexec : p.tables.exec = Jvm.exec) (hb : c.code = cc) (hC : Cx G s) (hM : Hm G M H) (hS : va_S (AG G) H0 H locs) {n v ci : Nat} {f : Nat → Option Nat} (t0 : Nat) {r : vw_C} {vs : List Value} (ht : (tyG G)[t0]? = some (G.2.1 t0, .object r.1)) (ha : M a = some (.inl (G.2.1 t0, n, .inr (.inr (.inr (.inr f)))))) (hv : M v = some (.inr (ci, vs))) (hc : vwCl[ci]? = some r) {i : Int32} (hin : vp_in i n) (hdg : decode cc pc = .ok (.aastore, 1))
    (kk : ∀ (H1 : Heap) (locs1 : List Loc), Hm G (va_up M a (some (.inl (G.2.1 t0, n, .inr (.inr (.inr (.inr (va_up f i.toNatClampNeg (some v)))))))) ) H1 → va_S (AG G) H0 H1 locs1 → W p l e R s m args below meth c H1 locs1 cells slots Q (F0 m (pc + 1) ls rest)) : W p l e R s m args below meth c H locs cells slots Q (F0 m pc ls (.ref v :: .int i :: .ref a :: rest)) := by
  obtain ⟨ws, hP, hD, hk9⟩ := hM
  obtain ⟨q, hq⟩ := hk9 _ _ ha
  obtain ⟨q2, hq2⟩ := hk9 _ _ hv
  exact va_astq hexec hb hC.k hP hD hS q t0 q2 ci hq ht hq2 hc hin hdg (fun H1 locs1 hP1 hD1 hS1 => kk H1 locs1 (Hm.set hD hk9 hq hP1 hD1) hS1)
theorem m_new {own C : String} {T : u_T} {N ci index : Nat} {Ts : List Cond} (hexec : p.tables.exec = Jvm.exec) (hb : c.code = cc) (hts : ∀ w ∈ Ts, w.before args s = true) (hin : ∀ w ∈ u_ws C T N, w ∈ Ts) (ty : Nat → FieldType) (hty : ∀ k, k < N → parseFieldDescriptor (T k).2.2.1 = some (ty k)) (hown : s.vm.findClass own = some m.cls) (hcl : (Cond.classLink own index C).before args s = true) (hinst : (Cond.instantiable C N).before args s = true) (hini : (Cond.initialized C).before args s = true)
    (hC : Cx G s) (hM : Hm G M H) (hS : va_S (AG G) H0 H locs) (h0 : G.2.2 ≤ H0.size) (hc : vwCl[ci]? = some (C, T, N)) {fs : List Value} (hfs : ∀ j, j < N → defaultValue (ty j) = vp_V fs j) (hcells : cells + 1 ≤ R.cells) (hslots : slots + N ≤ R.slots) (hdg : decode cc pc = .ok (.new index, 3))
    (kk : ∀ (q : Nat) (H1 : Heap), M q = none → Hm G (va_up M q (some (.inr (ci, fs)))) H1 → va_S (AG G) H0 H1 locs →
      W p l e R s m args below meth c H1 locs (cells + 1) (slots + N) Q (F0 m (pc + 3) ls (.ref q :: rest))) : W p l e R s m args below meth c H locs cells slots Q (F0 m pc ls rest) := by
  obtain ⟨ws, hP, hD, hk9⟩ := hM
  exact va_new hexec hb hts hin ty hty hown hcl hinst hini hC.k hP hD hS (fun q h => Nat.le_trans h0 h) hc hfs hcells hslots hdg (fun q H1 hP1 hD1 hS1 => kk q H1 (Hm.push hk9 hP1 hD1).1 (Hm.push hk9 hP1 hD1).2 hS1)
theorem va_RA_eq {U : State} {a b : ClassId} {ty : FieldType} (h1 : va_RA U a ty) (h2 : va_RA U b ty) : a = b := by
  cases ty with
  | object C =>
    obtain ⟨_, _, _, _, _, h4⟩ := h1
    obtain ⟨_, _, _, _, _, h5⟩ := h2
    exact Option.some.inj (h4.symm.trans h5)
  | _ => exact Option.some.inj (Eq.trans (Eq.symm h1) h2)
theorem m_newa (hexec : p.tables.exec = Jvm.exec) (hb : c.code = cc) {atype : ArrayType} (harr : (Cond.arrayClass (newarray.typeOf atype)).before args s = true) {ty : FieldType} (hty : newarray.typeOf atype = ty) (t0 : Nat) (hC : Cx G s) (ht : (tyG G)[t0]? = some (G.2.1 t0, ty)) (hM : Hm G M H) (hS : va_S (AG G) H0 H locs) (h0 : G.2.2 ≤ H0.size)
    {n : Int32} {N' : Nat} {a0 : vp_A} (ha : ∀ cA : ClassId, vp_cell cA a0 = arrV cA N' (fun _ => defaultValue ty)) (hn : ¬ n < 0) (hN : n.toNatClampNeg = N') (hbytes : N' * componentBytes ty ≤ 536870912) (hcells : cells + 1 ≤ R.cells) (hslots : slots + N' ≤ R.slots) (hdg : decode cc pc = .ok (.newarray atype, 2))
    (kk : ∀ (q : Nat) (H1 : Heap), M q = none → Hm G (va_up M q (some (.inl (G.2.1 t0, a0)))) H1 → va_S (AG G) H0 H1 locs →
      W p l e R s m args below meth c H1 locs (cells + 1) (slots + N') Q (F0 m (pc + 2) ls (.ref q :: rest))) : W p l e R s m args below meth c H locs cells slots Q (F0 m pc ls (.int n :: rest)) := by
  obtain ⟨ws, hP, hD, hk9⟩ := hM
  refine va_newa hexec hb harr hty hC.k hP hD hS (fun q h => Nat.le_trans h0 h) ha hn hN hbytes hcells hslots hdg (fun q cA H1 hK1 hP1 hD1 hS1 => ?_)
  have h1 := (hC.k.2 t0 _ ht).2
  have h2 := (hK1.2 (tyG G).length (cA, ty) (by simp)).2
  have h3 : cA = G.2.1 t0 := va_RA_eq h2 h1
  subst h3
  exact kk q H1 (Hm.push hk9 hP1 hD1).1 (Hm.push hk9 hP1 hD1).2 hS1
end MK
