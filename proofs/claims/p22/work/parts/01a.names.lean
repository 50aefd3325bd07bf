-- ===== PART A: goes FIRST, ahead of the names: the tables' words, and 'selects' of the private methods out of them =====
/-- a private method of a class that the tables say can be made, by its rows of tables_1 -/
def lw_okq (q : MethodName × Nat) : Prop := (q.1.cls ≠ "java/lang/invoke/MethodHandle" ∧ q.1.cls ≠ "java/lang/invoke/VarHandle") ∧ Cond.instantiable q.1.cls q.2 ∈ tables_1 ∧ Cond.privateMethod q.1 ∈ tables_1 ∧ Cond.instanceMethod q.1 ∈ tables_1
theorem lw_p0 : lw_okq (⟨"Forwardroll", "currencyNumbered", "(I)LForwardroll$Currency;"⟩, 5) := ⟨⟨by decide +kernel, by decide +kernel⟩, List.mem_of_getElem? (i := 15) (by decide +kernel), List.mem_of_getElem? (i := 128) (by decide +kernel), List.mem_of_getElem? (i := 129) (by decide +kernel)⟩
theorem lw_p1 : lw_okq (⟨"java/lang/Throwable", "fillInStackTrace", "(I)Ljava/lang/Throwable;"⟩, 6) := ⟨⟨by decide +kernel, by decide +kernel⟩, List.mem_of_getElem? (i := 173) (by decide +kernel), List.mem_of_getElem? (i := 171) (by decide +kernel), List.mem_of_getElem? (i := 172) (by decide +kernel)⟩
theorem lw_p2 : lw_okq (⟨"Forwardroll", "customerNumbered", "(I)LForwardroll$Customer;"⟩, 5) := ⟨⟨by decide +kernel, by decide +kernel⟩, List.mem_of_getElem? (i := 15) (by decide +kernel), List.mem_of_getElem? (i := 241) (by decide +kernel), List.mem_of_getElem? (i := 242) (by decide +kernel)⟩
theorem lw_p3 : lw_okq (⟨"Forwardroll", "exposureWith", "(LForwardroll$Customer;LForwardroll$Deal;)J"⟩, 5) := ⟨⟨by decide +kernel, by decide +kernel⟩, List.mem_of_getElem? (i := 15) (by decide +kernel), List.mem_of_getElem? (i := 340) (by decide +kernel), List.mem_of_getElem? (i := 341) (by decide +kernel)⟩
theorem lw_p4 : lw_okq (⟨"Forwardroll", "lossOfAll", "(LForwardroll$Customer;I)J"⟩, 5) := ⟨⟨by decide +kernel, by decide +kernel⟩, List.mem_of_getElem? (i := 15) (by decide +kernel), List.mem_of_getElem? (i := 344) (by decide +kernel), List.mem_of_getElem? (i := 345) (by decide +kernel)⟩
theorem lw_p5 : lw_okq (⟨"Forwardroll$Deal", "gainAt", "(I)J"⟩, 7) := ⟨⟨by decide +kernel, by decide +kernel⟩, List.mem_of_getElem? (i := 294) (by decide +kernel), List.mem_of_getElem? (i := 358) (by decide +kernel), List.mem_of_getElem? (i := 359) (by decide +kernel)⟩
theorem lw_p6 : lw_okq (⟨"Forwardroll", "dealNumbered", "(I)LForwardroll$Deal;"⟩, 5) := ⟨⟨by decide +kernel, by decide +kernel⟩, List.mem_of_getElem? (i := 15) (by decide +kernel), List.mem_of_getElem? (i := 397) (by decide +kernel), List.mem_of_getElem? (i := 398) (by decide +kernel)⟩
theorem lw_p7 : lw_okq (⟨"Forwardroll", "bookGain", "(LForwardroll$Deal;)J"⟩, 5) := ⟨⟨by decide +kernel, by decide +kernel⟩, List.mem_of_getElem? (i := 15) (by decide +kernel), List.mem_of_getElem? (i := 438) (by decide +kernel), List.mem_of_getElem? (i := 439) (by decide +kernel)⟩
theorem lw_p8 : lw_okq (⟨"Forwardroll", "endDealsOfToday", "()I"⟩, 5) := ⟨⟨by decide +kernel, by decide +kernel⟩, List.mem_of_getElem? (i := 15) (by decide +kernel), List.mem_of_getElem? (i := 478) (by decide +kernel), List.mem_of_getElem? (i := 479) (by decide +kernel)⟩
theorem lw_p9 : lw_okq (⟨"Forwardroll", "settleAll", "(I)V"⟩, 5) := ⟨⟨by decide +kernel, by decide +kernel⟩, List.mem_of_getElem? (i := 15) (by decide +kernel), List.mem_of_getElem? (i := 482) (by decide +kernel), List.mem_of_getElem? (i := 483) (by decide +kernel)⟩
def lw_privs_1 : List (MethodName × Nat) := [(⟨"Forwardroll", "currencyNumbered", "(I)LForwardroll$Currency;"⟩, 5), (⟨"java/lang/Throwable", "fillInStackTrace", "(I)Ljava/lang/Throwable;"⟩, 6), (⟨"Forwardroll", "customerNumbered", "(I)LForwardroll$Customer;"⟩, 5), (⟨"Forwardroll", "exposureWith", "(LForwardroll$Customer;LForwardroll$Deal;)J"⟩, 5), (⟨"Forwardroll", "lossOfAll", "(LForwardroll$Customer;I)J"⟩, 5), (⟨"Forwardroll$Deal", "gainAt", "(I)J"⟩, 7), (⟨"Forwardroll", "dealNumbered", "(I)LForwardroll$Deal;"⟩, 5), (⟨"Forwardroll", "bookGain", "(LForwardroll$Deal;)J"⟩, 5), (⟨"Forwardroll", "endDealsOfToday", "()I"⟩, 5), (⟨"Forwardroll", "settleAll", "(I)V"⟩, 5)]
theorem lw_r1 : ∀ q ∈ lw_privs_1, lw_okq q := List.forall_mem_cons.mpr ⟨lw_p0, List.forall_mem_cons.mpr ⟨lw_p1, List.forall_mem_cons.mpr ⟨lw_p2, List.forall_mem_cons.mpr ⟨lw_p3, List.forall_mem_cons.mpr ⟨lw_p4, List.forall_mem_cons.mpr ⟨lw_p5, List.forall_mem_cons.mpr ⟨lw_p6, List.forall_mem_cons.mpr ⟨lw_p7, List.forall_mem_cons.mpr ⟨lw_p8, List.forall_mem_cons.mpr ⟨lw_p9, fun _ h => absurd h List.not_mem_nil⟩⟩⟩⟩⟩⟩⟩⟩⟩⟩
def lw_privs : List (MethodName × Nat) := lw_privs_1
def lw_tbl : List Cond := k2_sels lw_privs ++ tables_1
theorem lw_privs_ok : ∀ q ∈ lw_privs, lw_okq q := lw_r1
-- ===== end of PART A; then your names; then what follows =====
/-! ===== BEGIN words of one list among another's, by their places ===== -/
theorem goodIn_r {big : List Cond} (ws : List Cond) (ps : List Nat) (hp : ws = ps.filterMap (fun i => big[i]?)) (h : ws.all goodWord = true) : GoodIn big ws := by
  intro w hw
  have h1 := List.all_eq_true.mp h w hw
  rw [hp] at hw
  obtain ⟨i, -, hi⟩ := List.mem_filterMap.mp hw
  have hm : w ∈ big := by first | exact List.mem_of_getElem? hi | exact List.getElem?_mem hi
  exact ⟨hm, good_of_word h1⟩
theorem goodIn_app {big a b : List Cond} (ha : GoodIn big a) (hb : GoodIn big b) : GoodIn big (a ++ b) := fun w h => (List.mem_append.mp h).elim (ha w) (hb w)
theorem goodIn_ca {big a b : List Cond} {c : Cond} (ha : GoodIn big (c :: a)) (hb : GoodIn big b) : GoodIn big (c :: (a ++ b)) := fun w h => (List.mem_cons.mp h).elim (fun e => ha w (List.mem_cons.mpr (Or.inl e))) (fun h => (List.mem_append.mp h).elim (fun h => ha w (List.mem_cons.mpr (Or.inr h))) (hb w))
theorem goodIn_sub {big ws : List Cond} (hm : ∀ w ∈ ws, w ∈ big) (h : ws.all goodWord = true) : GoodIn big ws := fun w hw => ⟨hm w hw, good_of_word (List.all_eq_true.mp h w hw)⟩
/-! ===== END ===== -/

/-! ===== BEGIN exceptions that leave a method, and their catching by the caller (launches without stack traces) ===== -/
section VXA
/-! The laws vx_back, vx_callV, vx_callS, vx_callSW, vx_throw0, vx_throwS follow proofs of the library, with one case more: JvmDerived/Free/Laws.lean (Back.of_free), Shelf42/LK1.lean (callV, callS), Shelf/KitTraced.lean (throwNew0V, throwNewS). -/
/-- where a method has thrown q: the class by its name, the cell, what was written, the world -/
def vx_T (XC : String → State → State → Prop) (st : State) (q : Addr) (t : State) (mc ms : Nat) (free : Addr → Prop) : Prop :=
  ∃ (E : String) (ce : Cell) (L : List Loc), XC E st t ∧ t.heap[q]? = some ce ∧ ce.vm = .none ∧ st.vm.findClass E = some ce.cls ∧ st.WarmedH t.vm ∧ st.sameButNew ({ t with vm := st.vm } : State) L mc ms ∧ ∀ z ∈ L, free z.base
def vx_Q (Qc : Array Value → State → Outcome → State → Prop) (XC : String → State → State → Prop) (mc ms : Nat) (free : Addr → Prop) : Array Value → State → Outcome → State → Prop := fun a st o t =>
  (Qc a st o t ∧ ∃ L, FrameEnd st o t L mc ms ∧ ∀ q ∈ L, free q.base) ∨ ∃ q, o = .threw q ∧ vx_T XC st q t mc ms free
/-- a callee that returns or throws -/
def vx_Met (l : Launch) (y : MethodName) (ws : List Cond) (rm : Room) (Pc : Array Value → State → Prop) (Qc : Array Value → State → Outcome → State → Prop) (XC : String → State → State → Prop) (mc ms : Nat) (free : Addr → Prop) : Prop :=
  MetFree l y (headSpec ws rm) Pc (fun _ _ _ _ _ => True) (vx_Q Qc XC mc ms free)
def vx_Post (XC : String → State → State → Prop) (mc ms : Nat) (free : Addr → Prop) : Pt → Array Value → Addr → Pt → Prop := fun A a q B =>
  ∃ (g : JFrame) (mk : MethodId) (t : State) (L : List Loc) (E : String) (ce : Cell), B.U.heap = t.heap ∧ B.U.vm = t.vm ∧ XC E (A.U.calling g mk a) t ∧ t.heap[q]? = some ce ∧ ce.vm = .none ∧ A.U.vm.findClass E = some ce.cls ∧ B.locs = A.locs ++ L ∧ (∀ z ∈ L, free z.base) ∧ B.cells = A.cells + mc ∧ B.slots = A.slots + ms
def vx_Back (l : Launch) (R : Room) (p : Program) (e : Env) (below : List Frame) (s : State) (sargs : Array Value) (y : MethodName) (len W9 : Nat)
    (Pre : Pt → Array Value → Prop) (Post : Pt → Array Value → Option Value → Pt → Prop) (PostX : Pt → Array Value → Addr → Pt → Prop) : Prop :=
  ∀ (m : MethodId) (meth : Method) (c : Code) (A : Pt) (g : JFrame) (ig : Instr) (mk : MethodId) (a : Array Value),
    Stand p l e R s m sargs below meth c A.U A.locs A.cells A.slots → g.method = m → g.locals.size = c.maxLocals → decode c.code g.pc = .ok (ig, len) →
    2 * g.monitorRoom + (g.stack.map fun v => v.category).sum ≤ W9 → A.U.methodNamed? y = some mk → Pre A a →
    (∃ (v : Option Value) (B : Pt), Stand p l e R s m sargs below meth c B.U B.locs B.cells B.slots ∧ Post A a v B ∧
      Steps p.tables e below (doInvoke e (A.U.setTop g) [] mk a).1 (B.U.setTop { g with pc := g.pc + len, stack := v.toList ++ g.stack })) ∨
    (∃ (q : Addr) (B : Pt), Stand p l e R s m sargs below meth c B.U B.locs B.cells B.slots ∧ PostX A a q B ∧
      Steps p.tables e below (doInvoke e (A.U.setTop g) [] mk a).1 ((B.U.setTop g).pushFrame (.throwing q)))
section Payer
variable {l : Launch} {R : Room} {p : Program} {e : Env} {below : List Frame} {s : State} {sargs : Array Value} {y : MethodName} {len W9 : Nat}
theorem vx_back {ws : List Cond} {rm : Room} {Pc : Array Value → State → Prop} {Qc : Array Value → State → Outcome → State → Prop} {XC : String → State → State → Prop} {mc ms : Nat} {free : Addr → Prop} {bytes : ByteArray} {maxL : Nat} {ret : Option FieldType}
    (hM : vx_Met l y ws rm Pc Qc XC mc ms free) (hblind : FrameBlind Pc) (hrc : rm.cells = mc) (hrs : rm.slots = ms)
    (hframes : rm.frames + 1 ≤ R.frames) (hlocals : W9 + (maxL + 11) + rm.locals ≤ R.locals)
    (hws : ∀ w ∈ ws, ∀ a' U, s.WarmedH U.vm → w.before a' U = true) (hcode : Cond.code y bytes maxL ret ∈ ws) (hinit : ∀ a' U, s.WarmedH U.vm → (Cond.initialized y.cls).before a' U = true) :
    vx_Back l R p e below s sargs y len W9 (PreOf R mc ms Pc) (PostOf Qc mc ms free) (vx_Post XC mc ms free) := by
  intro m meth c A g ig mk a X hg hsize hdg hW hn hp
  have h1 : (headSpec ws rm).pre.before a A.U = true := atoms_intro fun w hw => hws w hw _ _ X.warmed
  have h2 : (Cond.code y bytes maxL ret).before a A.U = true := hws _ hcode _ _ X.warmed
  have h3 : (Cond.initialized y.cls).before a A.U = true := hinit _ _ X.warmed
  have h4 : A.cells + (headSpec ws rm).room.cells ≤ R.cells := by rw [show (headSpec ws rm).room.cells = mc from hrc]; exact hp.1
  have h5 : A.slots + (headSpec ws rm).room.slots ≤ R.slots := by rw [show (headSpec ws rm).room.slots = ms from hrs]; exact hp.2.1
  have hPc : Pc a (A.U.calling g mk a) := hblind _ _ _ _ hp.2.2
  obtain ⟨U, Ls, c0, s0⟩ := A
  dsimp only [Pt.U, Pt.locs, Pt.cells, Pt.slots] at h1 h2 h3 h4 h5 X hn hPc ⊢
  obtain ⟨methY, cY, hmY, hcY, -, hlY, -, -, -, -⟩ := Cond.code_spec hn h2
  obtain ⟨kY, hkY, -⟩ := className_of_methodNamed hn
  have hinitY : kY.init = .initialized := Cond.initialized_spec (findClass_of_methodNamed hn) hkY h3
  have h : At U g.method c below := by rw [hg]; exact X.here
  have hlocals9 : W9 + (maxL + 11) + (headSpec ws rm).room.locals ≤ R.locals := hlocals
  have happ : (headSpec ws rm).appliesLoose y e.platform (U.calling g mk a) = true :=
    Spec.appliesLoose_calling (g := g) h hdg hn hkY hinitY
      (X.room_calling (g := g) (R' := (headSpec ws rm).room) hsize hmY hcY hframes (by rw [hlY]; omega) h4 h5) h1
  obtain ⟨mid, hmid⟩ := h.above
  have hfr : (U.setTop g).frames = (.java g :: mid) ++ below := by rw [State.frames_setTop' g h.top, hmid]; rfl
  obtain ⟨o, s₂, hsteps, -, hend, hq⟩ := Steps.callFree hM p X.admits X.cas X.clock (acts := []) hfr happ hPc trivial
  have hq' : vx_Q Qc XC mc ms free a (U.calling g mk a) o s₂ := hq
  rw [State.frames_setTop' g h.top] at hend
  obtain ⟨g₀, hg0⟩ := Option.isSome_iff_exists.mp h.top
  obtain ⟨r, hr⟩ := State.topJava?_eq_some.mp hg0
  have hr' : (({ U with heap := s₂.heap, slotsUsed := s₂.slotsUsed } : State).setVm s₂.vm).frames = .java g₀ :: r := hr
  rcases hq' with ⟨hqc, L, hfe, hL⟩ | ⟨q, rfl, E, ce, L, hx, hce, hcv, hcl, hW₂, hsm, hL⟩
  · obtain ⟨⟨v, rfl⟩, hW₂, e2, q2, q3, q4, q5, q6⟩ := id hfe
    have e3 : s₂ = ({ (U.calling g mk a).setFrames s₂.frames with heap := s₂.heap, slotsUsed := s₂.slotsUsed } : State).setVm s₂.vm := by
      have : s₂ = ({ s₂ with vm := (U.calling g mk a).vm } : State).setVm s₂.vm := rfl
      rw [e2] at this
      exact this
    obtain ⟨c₂, i₂, len₂, hc₂, hd₂, hf₂⟩ := hend
    have hW' : U.WarmedH s₂.vm := hW₂
    have hcc : c₂ = c := by
      have h1 : s₂.code? g.method = U.code? g.method := by
        rw [State.code?_eq, State.code?_eq, hW'.alike.method?]
      exact Option.some.inj (hc₂.symm.trans (h1.trans h.code))
    subst hcc
    have hlen : len₂ = len := by rw [hdg] at hd₂; cases hd₂; rfl
    subst hlen
    have hs₂ : s₂ = (({ U with heap := s₂.heap, slotsUsed := s₂.slotsUsed } : State).setVm s₂.vm).setTop { g with pc := g.pc + len₂, stack := v.toList ++ g.stack } := by
      refine e3.trans ?_
      rw [hf₂, State.calling_eq h.top, State.setFrames_setFrames, State.setTop_of_frames _ hr', hr]
      rfl
    have hsame : U.sameButNew ({ U with heap := s₂.heap, slotsUsed := s₂.slotsUsed } : State) L mc ms := by
      refine ⟨?_, q2, q3, q4, q5, q6⟩
      obtain ⟨t, ht, -⟩ := State.frames_cons hr
      show ({ U with heap := s₂.heap, slotsUsed := s₂.slotsUsed } : State) = { U.setFrames U.frames with heap := s₂.heap, slotsUsed := s₂.slotsUsed }
      rw [State.setFrames_self ht]
    subst hg
    refine Or.inl ⟨v, ⟨(({ U with heap := s₂.heap, slotsUsed := s₂.slotsUsed } : State).setVm s₂.vm), Ls ++ L, c0 + mc, s0 + ms⟩,
      ⟨X.admits, X.cas, X.clock, X.frames, X.room, X.hears, X.method, X.code, (X.here.setHeapUsed s₂.heap s₂.slotsUsed).setVm hW'.alike, X.tail, State.WarmedH.trans X.warmed hW', X.limits, X.bytes, X.same.trans (hsame.setVm s.vm)⟩,
      ⟨g, mk, s₂, L, rfl, rfl, hqc, rfl, hL, rfl, rfl⟩, ?_⟩
    show Steps p.tables e below _ ((({ U with heap := s₂.heap, slotsUsed := s₂.slotsUsed } : State).setVm s₂.vm).setTop { g with pc := g.pc + len₂, stack := v.toList ++ g.stack })
    rw [← hs₂]
    exact hsteps
  · obtain ⟨e2, q2, q3, q4, q5, q6⟩ := id hsm
    have e3 : s₂ = ({ (U.calling g mk a).setFrames s₂.frames with heap := s₂.heap, slotsUsed := s₂.slotsUsed } : State).setVm s₂.vm := by
      have : s₂ = ({ s₂ with vm := (U.calling g mk a).vm } : State).setVm s₂.vm := rfl
      rw [e2] at this
      exact this
    have hf₂ : s₂.frames = .throwing q :: .java g :: U.frames.tail := hend
    have hW' : U.WarmedH s₂.vm := hW₂
    have hs₂ : s₂ = ((({ U with heap := s₂.heap, slotsUsed := s₂.slotsUsed } : State).setVm s₂.vm).setTop g).pushFrame (.throwing q) := by
      refine e3.trans ?_
      rw [hf₂, State.calling_eq h.top, State.setFrames_setFrames, State.pushFrame, State.frames_setTop _ hr', State.setTop_of_frames _ hr', State.setFrames_setFrames, hr]
      rfl
    have hsame : U.sameButNew ({ U with heap := s₂.heap, slotsUsed := s₂.slotsUsed } : State) L mc ms := by
      refine ⟨?_, q2, q3, q4, q5, q6⟩
      obtain ⟨t, ht, -⟩ := State.frames_cons hr
      show ({ U with heap := s₂.heap, slotsUsed := s₂.slotsUsed } : State) = { U.setFrames U.frames with heap := s₂.heap, slotsUsed := s₂.slotsUsed }
      rw [State.setFrames_self ht]
    subst hg
    refine Or.inr ⟨q, ⟨(({ U with heap := s₂.heap, slotsUsed := s₂.slotsUsed } : State).setVm s₂.vm), Ls ++ L, c0 + mc, s0 + ms⟩,
      ⟨X.admits, X.cas, X.clock, X.frames, X.room, X.hears, X.method, X.code, (X.here.setHeapUsed s₂.heap s₂.slotsUsed).setVm hW'.alike, X.tail, State.WarmedH.trans X.warmed hW', X.limits, X.bytes, X.same.trans (hsame.setVm s.vm)⟩,
      ⟨g, mk, s₂, L, E, ce, rfl, rfl, hx, hce, hcv, hcl, rfl, hL, rfl, rfl⟩, ?_⟩
    show Steps p.tables e below _ (((({ U with heap := s₂.heap, slotsUsed := s₂.slotsUsed } : State).setVm s₂.vm).setTop g).pushFrame (.throwing q))
    rw [← hs₂]
    exact hsteps
end Payer
section Calls
variable {p : Program} {l : Launch} {e : Env} {R : Room} {s : State} {m : MethodId} {args : Array Value} {below : List Frame} {meth : Method} {c : Code} {T : State} {locs : List Loc} {cells slots : Nat}
theorem vx_callV (X : Stand p l e R s m args below meth c T locs cells slots) (hexec : p.tables.exec = Jvm.exec) {own C : String} {index : Nat} {y : MethodName} {bytes : ByteArray} {maxL : Nat} {ret : Option FieldType}
    (hown : s.vm.findClass own = some m.cls) (hlink : (Cond.methodLink own index y).before args s = true) (hinst : (Cond.instanceMethod y).before args s = true) (hsel : (Cond.selects C y y).before args s = true)
    (hcode : (Cond.code y bytes maxL ret).before args s = true) (hy : y.cls ≠ "java/lang/invoke/MethodHandle" ∧ y.cls ≠ "java/lang/invoke/VarHandle")
    {W9 : Nat} {Pre : Pt → Array Value → Prop} {Post : Pt → Array Value → Option Value → Pt → Prop} {PostX : Pt → Array Value → Addr → Pt → Prop} (hK : vx_Back l R p e below s args y 3 W9 Pre Post PostX)
    {b : Addr} {cellB : Cell} (hcell : T.heap[b]? = some cellB) (hobj : cellB.vm.isStatics = false) (hcls : s.vm.findClass C = some cellB.cls)
    {g : JFrame} (hg : g.method = m) (hsize : g.locals.size = c.maxLocals) {argsL rest : List Value} (hlen : ∀ sig, parseMethodDescriptor y.desc = some sig → argsL.length = sig.parameters.length)
    (hstack : g.stack = argsL.reverse ++ .ref b :: rest) (hW : 2 * g.monitorRoom + (rest.map fun v => v.category).sum ≤ W9) (hdg : decode c.code g.pc = .ok (.invokevirtual index, 3))
    (hpre : ∀ vm₁, s.WarmedH vm₁ → Pre ⟨T.setVm vm₁, locs, cells, slots⟩ (Value.ref b :: argsL).toArray) :
    (∃ (v : Option Value) (vm₁ : Vm) (B : Pt), s.WarmedH vm₁ ∧ Stand p l e R s m args below meth c B.U B.locs B.cells B.slots ∧ Post ⟨T.setVm vm₁, locs, cells, slots⟩ (Value.ref b :: argsL).toArray v B ∧
      ∀ target, Steps p.tables e below (B.U.setTop { g with pc := g.pc + 3, stack := v.toList ++ rest }) target → Steps p.tables e below (T.setTop g) target) ∨
    (∃ (q : Addr) (vm₁ : Vm) (B : Pt), s.WarmedH vm₁ ∧ Stand p l e R s m args below meth c B.U B.locs B.cells B.slots ∧ PostX ⟨T.setVm vm₁, locs, cells, slots⟩ (Value.ref b :: argsL).toArray q B ∧
      Steps p.tables e below (T.setTop g) ((B.U.setTop { g with stack := rest }).pushFrame (.throwing q))) := by
  obtain ⟨mk, methM, hnamed, hmethM, hstM, habM⟩ := Cond.instanceMethod_spec hinst
  obtain ⟨methM', cM, hmethM', -, -, -, -, -, -, hsigM⟩ := Cond.code_spec hnamed hcode
  cases hmethM.symm.trans hmethM'
  obtain ⟨c2, r2, m2, q1, q2, q3, q4, kP, hkP, hkPi⟩ := Cond.selects_spec hsel
  cases hcls.symm.trans q1
  cases (State.methodFound?_of_named hnamed hy).symm.trans q2
  cases hnamed.symm.trans q3
  have hselP : selectMethod e.platform s.vm cellB.cls mk = .method mk := by rw [Launch.admits_selectMethod X.admits]; exact q4
  obtain ⟨vm₁, X₁, hstep₁⟩ := X.invokevirtual hexec hown hlink hnamed hmethM hstM hkP hkPi hy (a := b) (cell := cellB) hcell
    (fun z h => by rw [h] at hobj; cases hobj) hselP hmethM habM hkP hkPi (g := g) hg (argsL := argsL) (rest := rest) (hlen _ hsigM) hstack hdg
  rcases hK m meth c ⟨T.setVm vm₁, locs, cells, slots⟩ { g with stack := rest } (.invokevirtual index) mk (Value.ref b :: argsL).toArray X₁ hg hsize hdg hW (X₁.named hnamed) (hpre vm₁ X₁.warmed) with ⟨v, B, X', hpost, hsteps⟩ | ⟨q, B, X', hpost, hsteps⟩
  · exact Or.inl ⟨v, vm₁, B, X₁.warmed, X', hpost, fun target h => hstep₁ _ fun acts => by rw [doInvoke_state]; exact hsteps.trans h⟩
  · exact Or.inr ⟨q, vm₁, B, X₁.warmed, X', hpost, hstep₁ _ fun acts => by rw [doInvoke_state]; exact hsteps⟩
theorem vx_callS (X : Stand p l e R s m args below meth c T locs cells slots) (hexec : p.tables.exec = Jvm.exec) {own : String} {index : Nat} {y : MethodName} {bytes : ByteArray} {maxL : Nat} {ret : Option FieldType}
    (hown : s.vm.findClass own = some m.cls) (hlink : (Cond.methodLink own index y).before args s = true) (hstat : (Cond.static y).before args s = true) (hinit : (Cond.initialized y.cls).before args s = true)
    (hcode : (Cond.code y bytes maxL ret).before args s = true) (hy : y.cls ≠ "java/lang/invoke/MethodHandle" ∧ y.cls ≠ "java/lang/invoke/VarHandle")
    {W9 : Nat} {Pre : Pt → Array Value → Prop} {Post : Pt → Array Value → Option Value → Pt → Prop} {PostX : Pt → Array Value → Addr → Pt → Prop} (hK : vx_Back l R p e below s args y 3 W9 Pre Post PostX)
    {g : JFrame} (hg : g.method = m) (hsize : g.locals.size = c.maxLocals) {argsL rest : List Value} (hlen : ∀ sig, parseMethodDescriptor y.desc = some sig → argsL.length = sig.parameters.length)
    (hstack : g.stack = argsL.reverse ++ rest) (hW : 2 * g.monitorRoom + (rest.map fun v => v.category).sum ≤ W9) (hdg : decode c.code g.pc = .ok (.invokestatic index, 3))
    (hpre : ∀ vm₁, s.WarmedH vm₁ → Pre ⟨T.setVm vm₁, locs, cells, slots⟩ argsL.toArray) :
    (∃ (v : Option Value) (vm₁ : Vm) (B : Pt), s.WarmedH vm₁ ∧ Stand p l e R s m args below meth c B.U B.locs B.cells B.slots ∧ Post ⟨T.setVm vm₁, locs, cells, slots⟩ argsL.toArray v B ∧
      ∀ target, Steps p.tables e below (B.U.setTop { g with pc := g.pc + 3, stack := v.toList ++ rest }) target → Steps p.tables e below (T.setTop g) target) ∨
    (∃ (q : Addr) (vm₁ : Vm) (B : Pt), s.WarmedH vm₁ ∧ Stand p l e R s m args below meth c B.U B.locs B.cells B.slots ∧ PostX ⟨T.setVm vm₁, locs, cells, slots⟩ argsL.toArray q B ∧
      Steps p.tables e below (T.setTop g) ((B.U.setTop { g with stack := rest }).pushFrame (.throwing q))) := by
  obtain ⟨mk, hnamed⟩ := Cond.code_named hcode
  obtain ⟨methM, cM, hmethM, -, -, -, -, -, -, hsigM⟩ := Cond.code_spec hnamed hcode
  have hstatic : methM.isStatic = true := Cond.static_spec hnamed hmethM hstat
  obtain ⟨kP, hkP, -⟩ := className_of_methodNamed hnamed
  have hinitP : kP.init = .initialized := Cond.initialized_spec (findClass_of_methodNamed hnamed) hkP hinit
  obtain ⟨vm₁, X₁, hstep₁⟩ := X.invokestatic hexec hown hlink hnamed hmethM hstatic hkP hinitP hy (g := g) hg (argsL := argsL) (rest := rest) (hlen _ hsigM) hstack hdg
  rcases hK m meth c ⟨T.setVm vm₁, locs, cells, slots⟩ { g with stack := rest } (.invokestatic index) mk argsL.toArray X₁ hg hsize hdg hW (X₁.named hnamed) (hpre vm₁ X₁.warmed) with ⟨v, B, X', hpost, hsteps⟩ | ⟨q, B, X', hpost, hsteps⟩
  · exact Or.inl ⟨v, vm₁, B, X₁.warmed, X', hpost, fun target h => hstep₁ _ fun acts => by rw [doInvoke_state]; exact hsteps.trans h⟩
  · exact Or.inr ⟨q, vm₁, B, X₁.warmed, X', hpost, hstep₁ _ fun acts => by rw [doInvoke_state]; exact hsteps⟩
end Calls
theorem vx_cls {s : State} {T : State} {vm₁ : Vm} {E : String} {k : ClassId} (hW : s.WarmedH vm₁) (h : (T.setVm vm₁).vm.findClass E = some k) : s.vm.findClass E = some k := by
  have h1 : vm₁.findClass E = some k := h
  rw [hW.alike.findClass] at h1
  exact h1
/-- the method's frame g, with q thrown over it -/
def vx_W (p : Program) (l : Launch) (e : Env) (R : Room) (s : State) (m : MethodId) (args : Array Value) (below : List Frame) (meth : Method) (c : Code) (H : Heap) (locs : List Loc) (cells slots : Nat) (Q : State → Prop) (g : JFrame) (q : Addr) : Prop :=
  ∀ T : State, T.heap = H → Stand p l e R s m args below meth c T locs cells slots → ∃ t, Steps p.tables e below ((T.setTop g).pushFrame (.throwing q)) t ∧ Q t
def vx_Run (p : Program) (l : Launch) (e : Env) (R : Room) (s : State) (m : MethodId) (args : Array Value) (below : List Frame) (meth : Method) (c : Code) (H : Heap) (locs : List Loc) (cells slots mc ms : Nat) (g : JFrame) (rest : List Value) (Qa : State → Outcome → State → Prop) (XC : String → State → State → Prop) (free : Addr → Prop) : Prop :=
  ∀ T : State, T.heap = H → Stand p l e R s m args below meth c T locs cells slots →
    (∃ (v : Option Value) (st₀ t T' : State) (L : List Loc), st₀.heap = H ∧ Stand p l e R s m args below meth c T' (locs ++ L) (cells + mc) (slots + ms) ∧ (∀ q ∈ L, free q.base) ∧ T'.heap = t.heap ∧ T'.vm = t.vm ∧ Qa st₀ (.returned v) t ∧
      Goes p e below T g T' { g with pc := g.pc + 3, stack := v.toList ++ rest }) ∨
    (∃ (q : Addr) (st₀ t T' : State) (L : List Loc) (E : String) (ce : Cell), st₀.heap = H ∧ Stand p l e R s m args below meth c T' (locs ++ L) (cells + mc) (slots + ms) ∧ (∀ z ∈ L, free z.base) ∧ T'.heap = t.heap ∧ T'.vm = t.vm ∧ XC E st₀ t ∧ t.heap[q]? = some ce ∧ ce.vm = .none ∧ s.vm.findClass E = some ce.cls ∧
      Steps p.tables e below (T.setTop g) ((T'.setTop { g with stack := rest }).pushFrame (.throwing q)))
def vx_X {S : Type} (px : S → Prop) (B : String → S → State → Prop) (A : Nat → Prop) : String → State → State → Prop := fun E st t => ∃ u : S, px u ∧ B E u t ∧ va_F A st t
section Runs
variable {p : Program} {l : Launch} {e : Env} {R : Room} {s : State} {m : MethodId} {args : Array Value} {below : List Frame} {meth : Method} {c : Code} {H : Heap} {locs : List Loc} {cells slots : Nat}
variable {y : MethodName} {bytes cc : ByteArray} {maxL nL mc ms n index : Nat} {ret : Option FieldType} {ws : List Cond} {rm : Room} {Pc : Array Value → State → Prop} {Qc : Array Value → State → Outcome → State → Prop} {XC : String → State → State → Prop} {free : Addr → Prop} {Ts : List Cond} {own C : String} {b : Addr} {As rest : List Value} {g : JFrame}
theorem vx_callBack (cb : CallB R s args own index y bytes maxL ret ws rm mc ms n) (hM : vx_Met l y ws rm Pc Qc XC mc ms free) (hbl : FrameBlind Pc) : vx_Back l R p e below s args y 3 8 (PreOf R mc ms Pc) (PostOf Qc mc ms free) (vx_Post XC mc ms free) := by
  obtain ⟨hrc, hrs, hfr, hlo, hws, hcw, -, hini, -⟩ := cb
  exact vx_back (bytes := bytes) (maxL := maxL) (ret := ret) hM hbl hrc hrs hfr hlo hws hcw (fun a' U hW => word_at hW (Or.inl (by first | rfl | simp [Cond.onTables, Cond.keeps, Cond.steady])) hini)
theorem vx_runV (S : CallFix p m c cc nL s args Ts own) (hM : vx_Met l y ws rm Pc Qc XC mc ms free) (cw : CallW R s args own C index y bytes maxL ret ws rm mc ms n) (hp : PreV s H C b Pc As)
    (hg : g.method = m) (hn : As.length = n) (hsize : g.locals.size = nL) (hstack : g.stack = As.reverse ++ .ref b :: rest) (hW : 2 * g.monitorRoom + (rest.map fun v => v.category).sum ≤ 8) (hdg : decode cc g.pc = .ok (.invokevirtual index, 3)) (hf : cells + mc ≤ R.cells ∧ slots + ms ≤ R.slots) :
    vx_Run p l e R s m args below meth c H locs cells slots mc ms g rest (Qc (Value.ref b :: As).toArray) XC free := by
  have hK : vx_Back l R p e below s args y 3 8 (PreOf R mc ms Pc) (PostOf Qc mc ms free) (vx_Post XC mc ms free) := vx_callBack cw.1 hM hp.1
  obtain ⟨⟨-, -, -, -, -, -, hcode, -, hy, hlen, hl⟩, hin, hse⟩ := cw
  obtain ⟨hx, hb, hml, ho, -⟩ := S
  obtain ⟨-, ⟨cellB, hcB, hoB, hclB⟩, hPc⟩ := hp
  intro T hT X
  rcases vx_callV X hx (C := C) (bytes := bytes) (maxL := maxL) (ret := ret) ho hl hin hse hcode hy hK (by rw [hT]; exact hcB) hoB hclB hg (hsize.trans hml.symm) (argsL := As) (rest := rest) (fun sig h => hn.trans (hlen sig h)) hstack hW (by rw [hb]; exact hdg)
    (fun vm₁ hW₁ => ⟨hf.1, hf.2, hPc (T.setVm vm₁) hT hW₁⟩) with ⟨v, vm₁, ⟨U', l2, c2, s2⟩, hW₁, X', ⟨g', mk, t, L, e1, e2, hq, h1, hL, h2, h3⟩, st⟩ | ⟨q, vm₁, ⟨U', l2, c2, s2⟩, hW₁, X', ⟨g', mk, t, L, E, ce, e1, e2, hq, hce, hcv, hcl, h1, hL, h2, h3⟩, st⟩
  · dsimp only [Pt.U, Pt.locs, Pt.cells, Pt.slots] at X' e1 e2 h1 h2 h3 st
    subst h1; subst h2; subst h3
    exact Or.inl ⟨v, (T.setVm vm₁).calling g' mk (Value.ref b :: As).toArray, t, U', L, hT, X', hL, e1, e2, hq, st⟩
  · dsimp only [Pt.U, Pt.locs, Pt.cells, Pt.slots] at X' e1 e2 h1 h2 h3 st hcl
    subst h1; subst h2; subst h3
    exact Or.inr ⟨q, (T.setVm vm₁).calling g' mk (Value.ref b :: As).toArray, t, U', L, E, ce, hT, X', hL, e1, e2, hq, hce, hcv, vx_cls hW₁ hcl, st⟩
theorem vx_runS (S : CallFix p m c cc nL s args Ts own) (hM : vx_Met l y ws rm Pc Qc XC mc ms free) (cw : CallB R s args own index y bytes maxL ret ws rm mc ms n ∧ (Cond.static y).before args s = true) (hp : PreS s H Pc As)
    (hg : g.method = m) (hn : As.length = n) (hsize : g.locals.size = nL) (hstack : g.stack = As.reverse ++ rest) (hW : 2 * g.monitorRoom + (rest.map fun v => v.category).sum ≤ 8) (hdg : decode cc g.pc = .ok (.invokestatic index, 3)) (hf : cells + mc ≤ R.cells ∧ slots + ms ≤ R.slots) :
    vx_Run p l e R s m args below meth c H locs cells slots mc ms g rest (Qc As.toArray) XC free := by
  have hK : vx_Back l R p e below s args y 3 8 (PreOf R mc ms Pc) (PostOf Qc mc ms free) (vx_Post XC mc ms free) := vx_callBack cw.1 hM hp.1
  obtain ⟨⟨-, -, -, -, -, -, hcode, hini, hy, hlen, hl⟩, hstt⟩ := cw
  obtain ⟨hx, hb, hml, ho, -⟩ := S
  intro T hT X
  rcases vx_callS X hx (bytes := bytes) (maxL := maxL) (ret := ret) ho hl hstt hini hcode hy hK hg (hsize.trans hml.symm) (argsL := As) (rest := rest) (fun sig h => hn.trans (hlen sig h)) hstack hW (by rw [hb]; exact hdg)
    (fun vm₁ hW₁ => ⟨hf.1, hf.2, hp.2 (T.setVm vm₁) hT hW₁⟩) with ⟨v, vm₁, ⟨U', l2, c2, s2⟩, hW₁, X', ⟨g', mk, t, L, e1, e2, hq, h1, hL, h2, h3⟩, st⟩ | ⟨q, vm₁, ⟨U', l2, c2, s2⟩, hW₁, X', ⟨g', mk, t, L, E, ce, e1, e2, hq, hce, hcv, hcl, h1, hL, h2, h3⟩, st⟩
  · dsimp only [Pt.U, Pt.locs, Pt.cells, Pt.slots] at X' e1 e2 h1 h2 h3 st
    subst h1; subst h2; subst h3
    exact Or.inl ⟨v, (T.setVm vm₁).calling g' mk As.toArray, t, U', L, hT, X', hL, e1, e2, hq, st⟩
  · dsimp only [Pt.U, Pt.locs, Pt.cells, Pt.slots] at X' e1 e2 h1 h2 h3 st hcl
    subst h1; subst h2; subst h3
    exact Or.inr ⟨q, (T.setVm vm₁).calling g' mk As.toArray, t, U', L, E, ce, hT, X', hL, e1, e2, hq, hce, hcv, vx_cls hW₁ hcl, st⟩
end Runs
section Rows
variable {p : Program} {l : Launch} {e : Env} {R : Room} {s : State} {m : MethodId} {args : Array Value} {below : List Frame} {meth : Method} {c : Code} {H : Heap} {locs : List Loc} {cells slots : Nat} {Q : State → Prop}
variable {mc ms : Nat} {free : Addr → Prop} {A0 A1 : Nat → Prop} {H0 : Heap} {a : Array Value} {pc : Nat} {ls : Array Slot} {st0 rest : List Value}
theorem vx_keep {st₀ t T' : State} {L : List Loc} (h0 : st₀.heap = H) (e1 : T'.heap = t.heap) (hS : va_S A0 H0 H locs) (hA : ∀ q, q < H.size → A1 q → A0 q) (hf : ∀ q, free q → A0 q) (hL : ∀ q ∈ L, free q.base) (hF : va_F A1 st₀ t) :
    H.size ≤ T'.heap.size ∧ (∀ q : Nat, q < H.size → ¬ A1 q → T'.heap[q]? = H[q]?) ∧ va_S A0 H0 T'.heap (locs ++ L) := by
  obtain ⟨hz, hk⟩ := hF
  rw [h0] at hz hk
  exact ⟨by rw [e1]; exact hz, fun q h1 h2 => by rw [e1]; exact hk q h1 h2,
    ⟨Nat.le_trans hS.1 (by rw [e1]; exact hz), fun q h1 h2 => by rw [e1, hk q (Nat.lt_of_lt_of_le h1 hS.1) (fun z => h2 (hA q (Nat.lt_of_lt_of_le h1 hS.1) z))]; exact hS.2.1 q h1 h2, fun q hq => by
      rcases List.mem_append.mp hq with h | h
      · exact hS.2.2 q h
      · exact hf _ (hL q h)⟩⟩
theorem vx_calli {S SX : Type} {post : Int32 → S → Prop} {px : SX → Prop} {B : S → State → Prop} {BX : String → SX → State → Prop} {AX : Nat → Prop} (hr : vx_Run p l e R s m args below meth c H locs cells slots mc ms (F0 m pc ls st0) rest (va_Qi post B A1 a) (vx_X px BX AX) free) (hS : va_S A0 H0 H locs) (hA : ∀ q, q < H.size → A1 q → A0 q) (hf : ∀ q, free q → A0 q) (hAX : ∀ q, q < H.size → AX q → A0 q)
    (kx : ∀ (E : String) (ce : Cell) (q9 : Addr) (u : SX) (t : State) (H1 : Heap) (locs1 : List Loc), t.heap = H1 → s.vm.Alike t.vm → px u → BX E u t → H.size ≤ H1.size → (∀ q : Nat, q < H.size → ¬ AX q → H1[q]? = H[q]?) → va_S A0 H0 H1 locs1 → H1[q9]? = some ce → ce.vm = .none → s.vm.findClass E = some ce.cls → vx_W p l e R s m args below meth c H1 locs1 (cells + mc) (slots + ms) Q (F0 m pc ls rest) q9)
    (kk : ∀ (r : Int32) (u : S) (t : State) (H1 : Heap) (locs1 : List Loc), t.heap = H1 → s.vm.Alike t.vm → post r u → B u t → H.size ≤ H1.size → (∀ q : Nat, q < H.size → ¬ A1 q → H1[q]? = H[q]?) → va_S A0 H0 H1 locs1 → W p l e R s m args below meth c H1 locs1 (cells + mc) (slots + ms) Q (F0 m (pc + 3) ls (.int r :: rest))) : W p l e R s m args below meth c H locs cells slots Q (F0 m pc ls st0) := by
  intro T hT X
  rcases hr T hT X with ⟨v, st₀, t, T', L, h0, X', hL, e1, e2, ⟨⟨r, u, hv, hp, hb⟩, hF⟩, st⟩ | ⟨q, st₀, t, T', L, E, ce, h0, X', hL, e1, e2, ⟨u, hp, hb, hF⟩, hce, hcv, hcl, st⟩
  · cases hv
    obtain ⟨k1, k2, k3⟩ := vx_keep h0 e1 hS hA hf hL hF
    obtain ⟨t2, a1, b1⟩ := kk r u t T'.heap (locs ++ L) e1.symm (by rw [← e2]; exact X'.warmed.alike) hp hb k1 k2 k3 T' rfl X'
    exact ⟨t2, st t2 a1, b1⟩
  · obtain ⟨k1, k2, k3⟩ := vx_keep h0 e1 hS hAX hf hL hF
    obtain ⟨t2, a1, b1⟩ := kx E ce q u t T'.heap (locs ++ L) e1.symm (by rw [← e2]; exact X'.warmed.alike) hp hb k1 k2 k3 (by rw [e1]; exact hce) hcv hcl T' rfl X'
    exact ⟨t2, st.trans a1, b1⟩
theorem vx_calll {S SX : Type} {post : Int64 → S → Prop} {px : SX → Prop} {B : S → State → Prop} {BX : String → SX → State → Prop} {AX : Nat → Prop} (hr : vx_Run p l e R s m args below meth c H locs cells slots mc ms (F0 m pc ls st0) rest (va_Ql post B A1 a) (vx_X px BX AX) free) (hS : va_S A0 H0 H locs) (hA : ∀ q, q < H.size → A1 q → A0 q) (hf : ∀ q, free q → A0 q) (hAX : ∀ q, q < H.size → AX q → A0 q)
    (kx : ∀ (E : String) (ce : Cell) (q9 : Addr) (u : SX) (t : State) (H1 : Heap) (locs1 : List Loc), t.heap = H1 → s.vm.Alike t.vm → px u → BX E u t → H.size ≤ H1.size → (∀ q : Nat, q < H.size → ¬ AX q → H1[q]? = H[q]?) → va_S A0 H0 H1 locs1 → H1[q9]? = some ce → ce.vm = .none → s.vm.findClass E = some ce.cls → vx_W p l e R s m args below meth c H1 locs1 (cells + mc) (slots + ms) Q (F0 m pc ls rest) q9)
    (kk : ∀ (r : Int64) (u : S) (t : State) (H1 : Heap) (locs1 : List Loc), t.heap = H1 → s.vm.Alike t.vm → post r u → B u t → H.size ≤ H1.size → (∀ q : Nat, q < H.size → ¬ A1 q → H1[q]? = H[q]?) → va_S A0 H0 H1 locs1 → W p l e R s m args below meth c H1 locs1 (cells + mc) (slots + ms) Q (F0 m (pc + 3) ls (.long r :: rest))) : W p l e R s m args below meth c H locs cells slots Q (F0 m pc ls st0) := by
  intro T hT X
  rcases hr T hT X with ⟨v, st₀, t, T', L, h0, X', hL, e1, e2, ⟨⟨r, u, hv, hp, hb⟩, hF⟩, st⟩ | ⟨q, st₀, t, T', L, E, ce, h0, X', hL, e1, e2, ⟨u, hp, hb, hF⟩, hce, hcv, hcl, st⟩
  · cases hv
    obtain ⟨k1, k2, k3⟩ := vx_keep h0 e1 hS hA hf hL hF
    obtain ⟨t2, a1, b1⟩ := kk r u t T'.heap (locs ++ L) e1.symm (by rw [← e2]; exact X'.warmed.alike) hp hb k1 k2 k3 T' rfl X'
    exact ⟨t2, st t2 a1, b1⟩
  · obtain ⟨k1, k2, k3⟩ := vx_keep h0 e1 hS hAX hf hL hF
    obtain ⟨t2, a1, b1⟩ := kx E ce q u t T'.heap (locs ++ L) e1.symm (by rw [← e2]; exact X'.warmed.alike) hp hb k1 k2 k3 (by rw [e1]; exact hce) hcv hcl T' rfl X'
    exact ⟨t2, st.trans a1, b1⟩
theorem vx_callf {S SX : Type} {post : UInt32 → S → Prop} {px : SX → Prop} {B : S → State → Prop} {BX : String → SX → State → Prop} {AX : Nat → Prop} (hr : vx_Run p l e R s m args below meth c H locs cells slots mc ms (F0 m pc ls st0) rest (va_Qf post B A1 a) (vx_X px BX AX) free) (hS : va_S A0 H0 H locs) (hA : ∀ q, q < H.size → A1 q → A0 q) (hf : ∀ q, free q → A0 q) (hAX : ∀ q, q < H.size → AX q → A0 q)
    (kx : ∀ (E : String) (ce : Cell) (q9 : Addr) (u : SX) (t : State) (H1 : Heap) (locs1 : List Loc), t.heap = H1 → s.vm.Alike t.vm → px u → BX E u t → H.size ≤ H1.size → (∀ q : Nat, q < H.size → ¬ AX q → H1[q]? = H[q]?) → va_S A0 H0 H1 locs1 → H1[q9]? = some ce → ce.vm = .none → s.vm.findClass E = some ce.cls → vx_W p l e R s m args below meth c H1 locs1 (cells + mc) (slots + ms) Q (F0 m pc ls rest) q9)
    (kk : ∀ (r : UInt32) (u : S) (t : State) (H1 : Heap) (locs1 : List Loc), t.heap = H1 → s.vm.Alike t.vm → post r u → B u t → H.size ≤ H1.size → (∀ q : Nat, q < H.size → ¬ A1 q → H1[q]? = H[q]?) → va_S A0 H0 H1 locs1 → W p l e R s m args below meth c H1 locs1 (cells + mc) (slots + ms) Q (F0 m (pc + 3) ls (.float r :: rest))) : W p l e R s m args below meth c H locs cells slots Q (F0 m pc ls st0) := by
  intro T hT X
  rcases hr T hT X with ⟨v, st₀, t, T', L, h0, X', hL, e1, e2, ⟨⟨r, u, hv, hp, hb⟩, hF⟩, st⟩ | ⟨q, st₀, t, T', L, E, ce, h0, X', hL, e1, e2, ⟨u, hp, hb, hF⟩, hce, hcv, hcl, st⟩
  · cases hv
    obtain ⟨k1, k2, k3⟩ := vx_keep h0 e1 hS hA hf hL hF
    obtain ⟨t2, a1, b1⟩ := kk r u t T'.heap (locs ++ L) e1.symm (by rw [← e2]; exact X'.warmed.alike) hp hb k1 k2 k3 T' rfl X'
    exact ⟨t2, st t2 a1, b1⟩
  · obtain ⟨k1, k2, k3⟩ := vx_keep h0 e1 hS hAX hf hL hF
    obtain ⟨t2, a1, b1⟩ := kx E ce q u t T'.heap (locs ++ L) e1.symm (by rw [← e2]; exact X'.warmed.alike) hp hb k1 k2 k3 (by rw [e1]; exact hce) hcv hcl T' rfl X'
    exact ⟨t2, st.trans a1, b1⟩
theorem vx_calld {S SX : Type} {post : UInt64 → S → Prop} {px : SX → Prop} {B : S → State → Prop} {BX : String → SX → State → Prop} {AX : Nat → Prop} (hr : vx_Run p l e R s m args below meth c H locs cells slots mc ms (F0 m pc ls st0) rest (va_Qd post B A1 a) (vx_X px BX AX) free) (hS : va_S A0 H0 H locs) (hA : ∀ q, q < H.size → A1 q → A0 q) (hf : ∀ q, free q → A0 q) (hAX : ∀ q, q < H.size → AX q → A0 q)
    (kx : ∀ (E : String) (ce : Cell) (q9 : Addr) (u : SX) (t : State) (H1 : Heap) (locs1 : List Loc), t.heap = H1 → s.vm.Alike t.vm → px u → BX E u t → H.size ≤ H1.size → (∀ q : Nat, q < H.size → ¬ AX q → H1[q]? = H[q]?) → va_S A0 H0 H1 locs1 → H1[q9]? = some ce → ce.vm = .none → s.vm.findClass E = some ce.cls → vx_W p l e R s m args below meth c H1 locs1 (cells + mc) (slots + ms) Q (F0 m pc ls rest) q9)
    (kk : ∀ (r : UInt64) (u : S) (t : State) (H1 : Heap) (locs1 : List Loc), t.heap = H1 → s.vm.Alike t.vm → post r u → B u t → H.size ≤ H1.size → (∀ q : Nat, q < H.size → ¬ A1 q → H1[q]? = H[q]?) → va_S A0 H0 H1 locs1 → W p l e R s m args below meth c H1 locs1 (cells + mc) (slots + ms) Q (F0 m (pc + 3) ls (.double r :: rest))) : W p l e R s m args below meth c H locs cells slots Q (F0 m pc ls st0) := by
  intro T hT X
  rcases hr T hT X with ⟨v, st₀, t, T', L, h0, X', hL, e1, e2, ⟨⟨r, u, hv, hp, hb⟩, hF⟩, st⟩ | ⟨q, st₀, t, T', L, E, ce, h0, X', hL, e1, e2, ⟨u, hp, hb, hF⟩, hce, hcv, hcl, st⟩
  · cases hv
    obtain ⟨k1, k2, k3⟩ := vx_keep h0 e1 hS hA hf hL hF
    obtain ⟨t2, a1, b1⟩ := kk r u t T'.heap (locs ++ L) e1.symm (by rw [← e2]; exact X'.warmed.alike) hp hb k1 k2 k3 T' rfl X'
    exact ⟨t2, st t2 a1, b1⟩
  · obtain ⟨k1, k2, k3⟩ := vx_keep h0 e1 hS hAX hf hL hF
    obtain ⟨t2, a1, b1⟩ := kx E ce q u t T'.heap (locs ++ L) e1.symm (by rw [← e2]; exact X'.warmed.alike) hp hb k1 k2 k3 (by rw [e1]; exact hce) hcv hcl T' rfl X'
    exact ⟨t2, st.trans a1, b1⟩
theorem vx_callv {S SX : Type} {post : S → Prop} {px : SX → Prop} {B : S → State → Prop} {BX : String → SX → State → Prop} {AX : Nat → Prop} (hr : vx_Run p l e R s m args below meth c H locs cells slots mc ms (F0 m pc ls st0) rest (va_Qv post B A1 a) (vx_X px BX AX) free) (hS : va_S A0 H0 H locs) (hA : ∀ q, q < H.size → A1 q → A0 q) (hf : ∀ q, free q → A0 q) (hAX : ∀ q, q < H.size → AX q → A0 q)
    (kx : ∀ (E : String) (ce : Cell) (q9 : Addr) (u : SX) (t : State) (H1 : Heap) (locs1 : List Loc), t.heap = H1 → s.vm.Alike t.vm → px u → BX E u t → H.size ≤ H1.size → (∀ q : Nat, q < H.size → ¬ AX q → H1[q]? = H[q]?) → va_S A0 H0 H1 locs1 → H1[q9]? = some ce → ce.vm = .none → s.vm.findClass E = some ce.cls → vx_W p l e R s m args below meth c H1 locs1 (cells + mc) (slots + ms) Q (F0 m pc ls rest) q9)
    (kk : ∀ (u : S) (t : State) (H1 : Heap) (locs1 : List Loc), t.heap = H1 → s.vm.Alike t.vm → post u → B u t → H.size ≤ H1.size → (∀ q : Nat, q < H.size → ¬ A1 q → H1[q]? = H[q]?) → va_S A0 H0 H1 locs1 → W p l e R s m args below meth c H1 locs1 (cells + mc) (slots + ms) Q (F0 m (pc + 3) ls (rest))) : W p l e R s m args below meth c H locs cells slots Q (F0 m pc ls st0) := by
  intro T hT X
  rcases hr T hT X with ⟨v, st₀, t, T', L, h0, X', hL, e1, e2, ⟨⟨u, hv, hp, hb⟩, hF⟩, st⟩ | ⟨q, st₀, t, T', L, E, ce, h0, X', hL, e1, e2, ⟨u, hp, hb, hF⟩, hce, hcv, hcl, st⟩
  · cases hv
    obtain ⟨k1, k2, k3⟩ := vx_keep h0 e1 hS hA hf hL hF
    obtain ⟨t2, a1, b1⟩ := kk u t T'.heap (locs ++ L) e1.symm (by rw [← e2]; exact X'.warmed.alike) hp hb k1 k2 k3 T' rfl X'
    exact ⟨t2, st t2 a1, b1⟩
  · obtain ⟨k1, k2, k3⟩ := vx_keep h0 e1 hS hAX hf hL hF
    obtain ⟨t2, a1, b1⟩ := kx E ce q u t T'.heap (locs ++ L) e1.symm (by rw [← e2]; exact X'.warmed.alike) hp hb k1 k2 k3 (by rw [e1]; exact hce) hcv hcl T' rfl X'
    exact ⟨t2, st.trans a1, b1⟩
/-- caught by the row x of this method's table; the rows ahead don't take it -/
theorem vx_catch {own name : String} {E : String} {ce : Cell} {q : Addr} (hown : s.vm.findClass own = some m.cls) (pre : List ExceptionTableEntry) (x : ExceptionTableEntry) (suf : List ExceptionTableEntry) (hsplit : c.exceptionTable.toList = pre ++ x :: suf)
    (hpass : ∀ z ∈ pre, covers z pc = false ∨ (z.catchType ≠ 0 ∧ ∃ nm : String, (Cond.classLink own z.catchType nm).before args s = true ∧ va_Nc E nm s)) (hx : covers x pc = true) (h0 : x.catchType ≠ 0)
    (hlink : (Cond.classLink own x.catchType name).before args s = true) (hcast : (Cond.castable E name).before args s = true) (hcell : H[q]? = some ce) (hv : ce.vm = .none) (hcl : s.vm.findClass E = some ce.cls)
    (kk : W p l e R s m args below meth c H locs cells slots Q (F0 m x.handlerPc ls [.ref q])) : vx_W p l e R s m args below meth c H locs cells slots Q (F0 m pc ls rest) q := by
  intro T hT X
  have hpl : e.platform.magicAccessors = ({} : Platform).magicAccessors := by rw [X.admits.platform]
  obtain ⟨c3, c4, hc3, hc4, hasg⟩ := Cond.castable_spec hcast
  cases Option.some.inj (hc3.symm.trans hcl)
  obtain ⟨c5, hc5, hcl5⟩ := Cond.classLink_spec hown hlink e.platform hpl
  cases Option.some.inj (hc4.symm.trans hc5)
  obtain ⟨vm', X', st⟩ := X.thenCaughtThrough q (g := F0 m pc ls rest) rfl (Steps.refl _) (by rw [hT]; exact hcell) (by rw [hv]; rfl) (by obtain ⟨k9, h9, -⟩ := Vm.findClass_spec hcl; exact ⟨k9, h9⟩) pre x suf hsplit
    (fun z hz => by
      rcases hpass z hz with h | ⟨hz0, nm, hl1, hn1⟩
      · exact Or.inl h
      · obtain ⟨c6, hc6, hcl6⟩ := Cond.classLink_spec hown hl1 e.platform hpl
        obtain ⟨a8, b8, h1, h2, h3⟩ := hn1
        cases Option.some.inj (h1.symm.trans hcl)
        cases Option.some.inj (h2.symm.trans hc6)
        exact Or.inr ⟨hz0, _, hcl6, h3⟩) hx (Or.inr ⟨h0, c4, hcl5, hasg⟩)
  obtain ⟨t, a1, b1⟩ := kk (T.setVm vm') hT X'
  exact ⟨t, st.trans a1, b1⟩
end Rows
section Ends
variable {p : Program} {l : Launch} {e : Env} {R : Room} {s : State} {m : MethodId} {args : Array Value} {below : List Frame} {meth : Method} {c : Code} {H : Heap} {locs : List Loc} {cells slots : Nat} {Q : State → Prop}
variable {mc ms : Nat} {free : Addr → Prop} {A0 A1 : Nat → Prop} {H0 : Heap} {a : Array Value} {ls : Array Slot} {st0 rest : List Value}
variable {Qc : Array Value → State → Outcome → State → Prop} {XC : String → State → State → Prop}
/-- what a body that may throw owes at its end -/
def vx_MQ (below : List Frame) (Qc : Array Value → State → Outcome → State → Prop) (XC : String → State → State → Prop) (a : Array Value) (s : State) (mc ms : Nat) (free : Addr → Prop) : State → Prop := fun t =>
  ∃ o, t.status = .running ∧ Ended t below o ∧ vx_Q Qc XC mc ms free a s o t
theorem vx_ret {g : JFrame} {mc ms : Nat} (k : W p l e R s m args below meth c H locs cells slots (MQ below Qc args s mc ms free) g) : W p l e R s m args below meth c H locs cells slots (vx_MQ below Qc XC args s mc ms free) g := by
  intro T hT X
  obtain ⟨t, a1, o, b1, b2, b3, b4⟩ := k T hT X
  exact ⟨t, a1, o, b1, b2, Or.inl ⟨b3, b4⟩⟩
/-- not caught here: it goes on to the caller -/
theorem vx_widen {g : JFrame} {q : Addr} {k n : Nat} (h1 : cells ≤ k) (h2 : slots ≤ n) (kk : vx_W p l e R s m args below meth c H locs k n Q g q) : vx_W p l e R s m args below meth c H locs cells slots Q g q := fun T hT X => kk T hT (stand_widen X h1 h2)
theorem vx_out {pc : Nat} {E : String} {ce : Cell} {q : Addr} {mc ms : Nat} (hout : ∀ x ∈ c.exceptionTable.toList, covers x pc = false) (hlocks : meth.locks = false) (hcell : H[q]? = some ce) (hv : ce.vm = .none) (hcl : s.vm.findClass E = some ce.cls)
    (hx : ∀ t : State, t.heap = H → s.vm.Alike t.vm → XC E s t) (hf : ∀ z ∈ locs, free z.base) (hc : cells ≤ mc) (hs : slots ≤ ms) :
    vx_W p l e R s m args below meth c H locs cells slots (vx_MQ below Qc XC args s mc ms free) (F0 m pc ls rest) q := by
  intro T hT X
  obtain ⟨st1, hrun, hend, hW, hsm⟩ := X.leaveThrown q (g := F0 m pc ls rest) rfl rfl rfl hout hlocks
  have hcell9 : (T.setFrames (.throwing q :: below)).heap[q]? = some ce := by
    show T.heap[q]? = some ce
    rw [hT]; exact hcell
  exact ⟨_, st1, .threw q, hrun, hend, Or.inr ⟨q, rfl, E, ce, locs, hx _ hT hW.alike, hcell9, hv, hcl, hW, hsm.mono hc hs, hf⟩⟩
theorem vx_frame {U : State} {k n : Nat} (h : s.sameButNew ({ U with vm := s.vm } : State) locs k n) : s.heap.size ≤ U.heap.size ∧ ∀ q : Nat, q < s.heap.size → (∀ z ∈ locs, z.base ≠ q) → U.heap[q]? = s.heap[q]? := by
  obtain ⟨-, h2, -, -, -, h6⟩ := h
  refine ⟨h2, fun q hq hz => ?_⟩
  obtain ⟨c9, e1, e2, e3, e4⟩ := h6 q _ (Array.getElem?_eq_getElem hq)
  have hs : c9.slots = (s.heap[q]).slots := Array.ext_getElem? fun i => e4 i fun hm => hz _ hm rfl
  have h9 : c9 = s.heap[q] := by
    rw [hs] at e2
    exact e2
  have e5 : U.heap[q]? = some c9 := e1
  rw [e5, h9, Array.getElem?_eq_getElem hq]
/-- the words of a throw but the four that speak of the heap -/
def vx_no (w : Cond) : Bool := decide (w ≠ .isRef (.static Bundle.tN "UNASSIGNED_STACK" Bundle.steD)) && decide (w ≠ .isRef (.static Bundle.tN "SUPPRESSED_SENTINEL" Bundle.listD)) && decide (w ≠ .laysStatic Bundle.tN "UNASSIGNED_STACK" Bundle.steD) && decide (w ≠ .laysStatic Bundle.tN "SUPPRESSED_SENTINEL" Bundle.listD)
def vx_at0 (own : String) (ic : Nat) (X : String) (names : List String) : List Cond := (Bundle.ownAtoms0 own ic X names).filter vx_no
def vx_atS (own : String) (ic : Nat) (X : String) (names : List String) : List Cond := (Bundle.ownAtoms own ic X names).filter vx_no
/-- a word that the tables alone decide, or a good one -/
def vx_ot (w : Cond) : Bool := w.onTables || goodWord w
theorem vx_ot_at {args a' : Array Value} {s U : State} {w : Cond} (hW : s.WarmedH U.vm) (hvm : s.vm = U.vm) (hg : vx_ot w = true) (h : w.before args s = true) : w.before a' U = true := by
  simp only [vx_ot, Bool.or_eq_true] at hg
  rcases hg with hg | hg
  · exact va_tabs hg hvm h
  · exact word_at hW (good_of_word hg) h
/-- a list's words: the good ones out of the method's own list, the others by premises of their own -/
theorem vx_hat {args : Array Value} {s : State} {L B : List Cond} (h1 : ∀ w ∈ L.filter goodWord, w.before args s = true) (h2 : ∀ w ∈ L.filter (fun w => !goodWord w), w ∈ B) (h3 : ∀ w ∈ B, w.before args s = true) : ∀ w ∈ L, w.before args s = true := by
  intro w hw
  by_cases g : goodWord w = true
  · exact h1 w (List.mem_filter.mpr ⟨hw, g⟩)
  · refine h3 w (h2 w (List.mem_filter.mpr ⟨hw, ?_⟩))
    show (!goodWord w) = true
    cases hgw : goodWord w
    · rfl
    · exact absurd hgw g
theorem vx_c {args : Array Value} {s : State} {w : Cond} {B : List Cond} (h : w.before args s = true) (t : ∀ w ∈ B, w.before args s = true) : ∀ w' ∈ w :: B, w'.before args s = true := fun w' h' => (List.mem_cons.mp h').elim (fun e => by rw [e]; exact h) (t w')
theorem vx_n {args : Array Value} {s : State} : ∀ w ∈ ([] : List Cond), w.before args s = true := fun _ h => nomatch h
theorem vx_own {args : Array Value} {s : State} {L : List Cond} (h1 : ∀ w ∈ L.filter vx_no, w.before args s = true)
    (hU : (Cond.isRef (.static Bundle.tN "UNASSIGNED_STACK" Bundle.steD)).before args s = true) (hN : (Cond.isRef (.static Bundle.tN "SUPPRESSED_SENTINEL" Bundle.listD)).before args s = true)
    (lU : (Cond.laysStatic Bundle.tN "UNASSIGNED_STACK" Bundle.steD).before args s = true) (lN : (Cond.laysStatic Bundle.tN "SUPPRESSED_SENTINEL" Bundle.listD).before args s = true) : ∀ w ∈ L, w.before args s = true := by
  intro w hw
  by_cases e1 : w = .isRef (.static Bundle.tN "UNASSIGNED_STACK" Bundle.steD)
  · rw [e1]; exact hU
  · by_cases e2 : w = .isRef (.static Bundle.tN "SUPPRESSED_SENTINEL" Bundle.listD)
    · rw [e2]; exact hN
    · by_cases e3 : w = .laysStatic Bundle.tN "UNASSIGNED_STACK" Bundle.steD
      · rw [e3]; exact lU
      · by_cases e4 : w = .laysStatic Bundle.tN "SUPPRESSED_SENTINEL" Bundle.listD
        · rw [e4]; exact lN
        · exact h1 w (List.mem_filter.mpr ⟨hw, by unfold vx_no; rw [decide_eq_true e1, decide_eq_true e2, decide_eq_true e3, decide_eq_true e4]; rfl⟩)
/-- where a static field lies, its class's statics cell in H -/
def vx_L (C n d : String) (A : Nat → Prop) (U : State) (H : Heap) : Prop := ∃ (c : ClassId) (k : Class) (i : Nat) (f : Field) (a : Nat) (cell : Cell), U.vm.findClass C = some c ∧ U.fieldFound? C n d = some (c, k, i, f) ∧ f.isStatic = true ∧ k.statics = some a ∧ H[a]? = some cell ∧ cell.vm.isStatics = true ∧ cell.cls = c ∧ f.slot < cell.slots.size ∧ k.staticTypes[f.slot]? = some f.type ∧ ¬ A a
theorem vx_L.moved {C n d : String} {A : Nat → Prop} {u U : State} {H : Heap} (hvm : u.vm.Alike U.vm) (h : vx_L C n d A u H) : vx_L C n d A U H := by
  obtain ⟨c, k, i, f, a, cell, h1, h2, h3, h4, h5, h6, h7, h8, h9, h10⟩ := h
  obtain ⟨k', hi', he⟩ := State.fieldFound?_setVm hvm h2
  exact ⟨c, k', i, f, a, cell, by rw [hvm.findClass]; exact h1, hi', h3, by rw [he]; exact h4, h5, h6, h7, h8, by rw [he]; exact h9, h10⟩
theorem vx_L.kept {C n d : String} {A : Nat → Prop} {U : State} {H H1 : Heap} (h : vx_L C n d A U H) (hq : ∀ a : Nat, a < H.size → ¬ A a → H1[a]? = H[a]?) : vx_L C n d A U H1 := by
  obtain ⟨c, k, i, f, a, cell, h1, h2, h3, h4, h5, h6, h7, h8, h9, h10⟩ := h
  exact ⟨c, k, i, f, a, cell, h1, h2, h3, h4, by rw [hq a (Array.getElem?_eq_some_iff.mp h5).1 h10]; exact h5, h6, h7, h8, h9, h10⟩
theorem vx_L.narrow {C n d : String} {A B : Nat → Prop} {U : State} {H : Heap} (h : vx_L C n d A U H) (hAB : ∀ q, B q → A q) : vx_L C n d B U H := by
  obtain ⟨c, k, i, f, a, cell, h1, h2, h3, h4, h5, h6, h7, h8, h9, h10⟩ := h
  exact ⟨c, k, i, f, a, cell, h1, h2, h3, h4, h5, h6, h7, h8, h9, fun z => h10 (hAB _ z)⟩
theorem vx_L.word {C n d : String} {A : Nat → Prop} {s : State} {args : Array Value} (h : vx_L C n d A s s.heap) : (Cond.laysStatic C n d).before args s = true := by
  obtain ⟨c, k, i, f, a, cell, h1, h2, h3, h4, h5, h6, h7, h8, h9, -⟩ := h
  show (Cond.laysStatic C n d).holds args s none s [] = true
  exact Cond.laysStatic_of h1 h2 h3 h4 h5 h6 h7 h8 h9
/-- .. and what it holds: null or some reference -/
def vx_Zq (C n d : String) (A : Nat → Prop) (U : State) (H : Heap) : Prop := va_Zq C n d A U H ∧ vx_L C n d A U H
theorem vx_Zq.moved {C n d : String} {A : Nat → Prop} {u U : State} {H : Heap} (hvm : u.vm.Alike U.vm) (h : vx_Zq C n d A u H) : vx_Zq C n d A U H := ⟨va_Zq.moved hvm h.1, vx_L.moved hvm h.2⟩
theorem vx_Zq.kept {C n d : String} {A : Nat → Prop} {U : State} {H H1 : Heap} (h : vx_Zq C n d A U H) (hq : ∀ a : Nat, a < H.size → ¬ A a → H1[a]? = H[a]?) : vx_Zq C n d A U H1 := ⟨va_Zq.kept h.1 hq, vx_L.kept h.2 hq⟩
theorem vx_Zq.narrow {C n d : String} {A B : Nat → Prop} {U : State} {H : Heap} (h : vx_Zq C n d A U H) (hAB : ∀ q, B q → A q) : vx_Zq C n d B U H := ⟨va_Zq.narrow h.1 hAB, vx_L.narrow h.2 hAB⟩
theorem vx_Zqof {args : Array Value} {s : State} {C n d : String} {A : Nat → Prop} (hl : (Cond.laysStatic C n d).before args s = true) (hini : (Cond.initialized C).before args s = true) (h : (Cond.isRef (.static C n d)).before args s = true) (hA : ∀ a : Nat, a < s.heap.size → ¬ A a) : vx_Zq C n d A s s.heap := by
  refine ⟨va_Zqof hl hini h hA, ?_⟩
  obtain ⟨c, k, i, f, a, cell, h1, h2, h3, h4, h5, h6, h7, h8, h9⟩ := Cond.laysStatic_spec hl
  exact ⟨c, k, i, f, a, cell, h1, h2, h3, h4, h5, h6, h7, h8, h9, hA a (Array.getElem?_eq_some_iff.mp h5).1⟩
theorem vx_isRef {C n d : String} {v : Value} {A : Nat → Prop} {s : State} {args : Array Value} (h : va_Z C n d v A s s.heap) (hv : v.isRef = true) : (Cond.isRef (.static C n d)).before args s = true := by
  obtain ⟨cf, kf, fi, f, a, cell, h1, h2, h3, h4, h5, h6, h7, -⟩ := h
  have he : (Term.static C n d).eval args s none [] s = some v := by
    simp [Term.eval, State.fieldNamed?, h1, h2, h4, h5, h6, h7]
  simp only [Cond.before, Cond.holds, Cond.value, he]
  cases v <;> simp_all [Value.isRef]
theorem vx_isRefq {C n d : String} {A : Nat → Prop} {s : State} {args : Array Value} (h : va_Zq C n d A s s.heap) : (Cond.isRef (.static C n d)).before args s = true := by
  rcases h with h | ⟨t, h⟩
  · exact vx_isRef h rfl
  · exact vx_isRef h rfl
/-- the same frame, seen from here: as if the method were called anew in this heap -/
theorem vx_rebase {T : State} (X : Stand p l e R s m args below meth c T locs cells slots) {R' : Room} (hf : R'.frames ≤ R.frames) (hl : R'.locals ≤ R.locals) (hc : cells + R'.cells ≤ R.cells) (hs : slots + R'.slots ≤ R.slots) :
    Stand p l e R' ((T.setVm s.vm).setFrames (.invoking m args :: below)) m args below meth c T [] 0 0 := by
  have htop : (T.setVm s.vm).topJava?.isSome := X.here.top
  have hF : ((T.setVm s.vm).setFrames (.invoking m args :: below)).frames = .invoking m args :: below := State.frames_setFrames _ (State.cur_lt_of_top htop)
  obtain ⟨g₀, hg0⟩ := Option.isSome_iff_exists.mp htop
  obtain ⟨r, hr⟩ := State.topJava?_eq_some.mp hg0
  have hl9 : e.platform.stackLimits (T.setVm s.vm).me = e.platform.stackLimits s.me := X.limits
  have hb9 : (T.setVm s.vm).me.stackBytes = s.me.stackBytes := X.bytes
  refine ⟨X.admits, X.cas, X.clock, hF, ?_, X.hears, X.method, X.code, X.here, X.tail, X.warmed, ?_, ?_, ?_⟩
  · have h := X.room
    have hU : ((T.setVm s.vm).setFrames (.invoking m args :: below)).localsInUse = s.localsInUse := by
      rw [State.localsInUse_invoking hF (meth := meth) (c := c) X.method X.code, State.localsInUse_invoking X.frames X.method X.code]
    simp only [State.hasRoom, Bool.and_eq_true, decide_eq_true_eq] at h ⊢
    obtain ⟨⟨⟨⟨h1, h2, h3, h4, h5, h6⟩, h7⟩, h8⟩, h9⟩ := h
    rw [X.frames, List.length_cons] at h2 h3
    have q1 := X.heapSize
    have q2 := X.used
    simp only [hF, hU, List.length_cons, State.stackLimits_setFrames, State.stackBytes_setFrames, hl9, hb9]
    refine ⟨⟨⟨⟨by omega, by omega, by omega, by omega, by omega, h6⟩, ?_⟩, ?_⟩, X.book⟩
    · show T.heap.size + R'.cells ≤ e.platform.maxCells
      omega
    · show T.slotsUsed + R'.slots ≤ e.platform.maxSlots
      omega
  · rw [State.stackLimits_setFrames]; rfl
  · rw [State.stackBytes_setFrames]; rfl
  · refine ⟨?_, Nat.le_refl _, Nat.le_refl _, ?_, ?_, fun a c9 h9 => ⟨c9, h9, rfl, rfl, fun _ _ => rfl⟩⟩
    · obtain ⟨t, ht, -⟩ := State.frames_cons hr
      show T.setVm s.vm = { ((T.setVm s.vm).setFrames (.invoking m args :: below)).setFrames (T.setVm s.vm).frames with heap := T.heap, slotsUsed := T.slotsUsed }
      rw [State.setFrames_setFrames, State.setFrames_self ht]
      rfl
    · show T.slotsUsed = T.slotsUsed + ((T.heap.toList.drop T.heap.size).map (·.slots.size)).sum
      rw [List.drop_eq_nil_of_le (Nat.le_of_eq Array.length_toList)]
      rfl
    · show ((T.heap.toList.drop T.heap.size).map (·.slots.size)).sum ≤ 0
      rw [List.drop_eq_nil_of_le (Nat.le_of_eq Array.length_toList)]
      exact Nat.le_refl _
/-- 'throw new E()': new; dup; invokespecial; athrow -/
theorem vx_throw0 {cc : ByteArray} {pc : Nat} (hexec : p.tables.exec = Jvm.exec) (hb : c.code = cc) (hl : l.stackTraces = false) {own cls : String} {names : List String} {ik ic mc ms : Nat} {A : Nat → Prop}
    (hown : s.vm.findClass own = some m.cls) (hcls : Bundle.fit cls = true) (hnames : ∀ n ∈ names, Bundle.fit n = true)
    (hk : (Cond.classLink own ik cls).before args s = true) (hini : (Cond.initialized cls).before args s = true) (hat : ∀ w ∈ vx_at0 own ic cls names, w.before args s = true)
    (hgood : ∀ w ∈ Cond.classLink own ik cls :: Cond.initialized cls :: vx_at0 own ic cls names, vx_ot w = true)
    (hU : vx_Zq Bundle.tN "UNASSIGNED_STACK" Bundle.steD A s s.heap) (hN : vx_Zq Bundle.tN "SUPPRESSED_SENTINEL" Bundle.listD A s s.heap) (hS : va_S A s.heap H locs) (hsize : ls.size = c.maxLocals)
    (d0 : decode cc pc = .ok (.new ik, 3)) (d3 : decode cc (pc + 3) = .ok (.dup, 1)) (d4 : decode cc (pc + 4) = .ok (.invokespecial ic, 3)) (d7 : decode cc (pc + 7) = .ok (.athrow, 1))
    (hout : ∀ x ∈ c.exceptionTable.toList, covers x (pc + 7) = false)
    (hRframes : names.length + 3 < R.frames) (hRlocals : (rest.map fun v => v.category).sum + (13 * (names.length + 1) + 42) ≤ R.locals) (hRcells : cells + 1 ≤ R.cells) (hRslots : slots + 6 ≤ R.slots) (hlocks : meth.locks = false)
    (hx : ∀ t : State, s.vm.Alike t.vm → H.size ≤ t.heap.size → (∀ q : Nat, q < H.size → t.heap[q]? = H[q]?) → XC cls s t)
    (hf : ∀ z ∈ locs, free z.base) (hc : cells + 1 ≤ mc) (hs : slots + 6 ≤ ms) :
    W p l e R s m args below meth c H locs cells slots (vx_MQ below Qc XC args s mc ms free) (F0 m pc ls rest) := by
  intro T hT X
  have htr : e.platform.stackTraces = false := (show e.platform.stackTraces = l.stackTraces by rw [X.admits.platform]).trans hl
  have Y := vx_rebase X (R' := { frames := R.frames, locals := R.locals, cells := 1, slots := 6 }) (Nat.le_refl _) (Nat.le_refl _) hRcells hRslots
  obtain ⟨s', hA⟩ : ∃ z, z = (T.setVm s.vm).setFrames (.invoking m args :: below) := ⟨_, rfl⟩
  rw [← hA] at Y
  have hvm : s'.vm = s.vm := by rw [hA]; rfl
  have hhp : s'.heap = H := by rw [hA]; exact hT
  have hW0 : s.WarmedH s'.vm := by rw [hvm]; exact State.WarmedH.refl s
  have hat' : ∀ w ∈ vx_at0 own ic cls names, w.before args s' = true := fun w hw => vx_ot_at hW0 hvm.symm (hgood w (List.mem_cons_of_mem _ (List.mem_cons_of_mem _ hw))) (hat w hw)
  have hk' : (Cond.classLink own ik cls).before args s' = true := vx_ot_at hW0 hvm.symm (hgood _ List.mem_cons_self) hk
  have hini' : (Cond.initialized cls).before args s' = true := vx_ot_at hW0 hvm.symm (hgood _ (List.mem_cons_of_mem _ List.mem_cons_self)) hini
  have hU' : vx_Zq Bundle.tN "UNASSIGNED_STACK" Bundle.steD A s' s'.heap := by rw [hhp]; exact vx_Zq.moved hW0.alike (hU.kept hS.2.1)
  have hN' : vx_Zq Bundle.tN "SUPPRESSED_SENTINEL" Bundle.listD A s' s'.heap := by rw [hhp]; exact vx_Zq.moved hW0.alike (hN.kept hS.2.1)
  have h : ∀ w ∈ Bundle.ownAtoms0 own ic cls names, w.before args s' = true := vx_own hat' (vx_isRefq hU'.1) (vx_isRefq hN'.1) hU'.2.word hN'.2.word
  have hown' : s'.vm.findClass own = some m.cls := by rw [hvm]; exact hown
  have hins : (Cond.instantiable cls 6).before args s' = true := h _ (by simp [Bundle.ownAtoms0])
  obtain ⟨vm₁, cX, kX, hfX, hkX, -, -, X₁, st1⟩ := Y.newCold hexec (own := own) (C := cls) (index := ik) (n := 6) hown' hk' hins hini'
    (g := F0 m pc ls rest) rfl (by rw [hb]; exact d0) (Nat.le_refl _) (Nat.le_refl _)
  generalize hT1 : (T.setVm vm₁).pushCell { cls := cX, slots := kX.instanceTypes.map defaultValue, vm := .none } = T1 at X₁ st1
  have hcat : (Value.ref T.heap.size).category = 1 := rfl
  have hcellA : T1.heap[T.heap.size]? = some (freshCell cX kX) := by rw [← hT1]; exact State.heap_pushCell_size _ _
  have d3' : decode c.code (pc + 3) = .ok (.dup, 1) := by rw [hb]; exact d3
  obtain ⟨U, hsteps, hrun, hend, hW, hsame, ce, hce, hO⟩ := X₁.ctorThrow0 hexec htr (own := own) (cls := cls) (names := names) (ic := ic) hown' hcls hnames h (fun x hx => nomatch hx) hfX hkX hcellA (by rw [hhp, hT]; exact Nat.le_refl _)
    (g := { method := m, pc := pc + 4, locals := ls, stack := .ref T.heap.size :: .ref T.heap.size :: rest, locked := none }) rfl hsize rfl rfl (rest := rest) rfl
    (by rw [hb]; exact d4) (by rw [hb]; exact d7) hout hRframes (by simp only [List.map_cons, List.sum_cons, hcat]; omega) hlocks
  obtain ⟨f1, f2⟩ := vx_frame hsame
  rw [hhp] at f1 f2
  have hWs : s.WarmedH U.vm := State.WarmedH.trans hW0 hW
  have hcl : s.vm.findClass cls = some ce.cls := by
    have h9 := hO.cls
    rw [hvm] at h9
    exact h9
  have hall : s.sameButNew ({ U with vm := s.vm } : State) locs mc ms := by
    subst hA
    obtain ⟨e1, e2⟩ := hsame
    rw [State.setFrames_setFrames] at e1
    have h2 : (T.setVm s.vm).sameButNew ({ U with vm := s.vm } : State) [] (0 + 1) (0 + 6) := ⟨e1, e2⟩
    have h3 := X.same.trans h2
    rw [List.append_nil] at h3
    exact h3.mono hc hs
  refine ⟨U, ?_, .threw T.heap.size, hrun, hend, Or.inr ⟨T.heap.size, rfl, cls, ce, locs, hx U hWs.alike f1 (fun q hq => f2 q hq (fun z hz => nomatch hz)), hce, hO.vm, hcl, hWs, hall, hf⟩⟩
  refine st1 _ ?_
  show Steps p.tables e below (T1.setTop { method := m, pc := pc + 3, locals := ls, stack := .ref T.heap.size :: rest, locked := none }) _
  jvm_step X₁.here [X₁.here.top, hexec, d3', Value.category]
  exact hsteps
/-- 'throw new E("text")': new; dup; ldc; invokespecial; athrow -/
theorem vx_throwS {cc : ByteArray} {pc : Nat} (hexec : p.tables.exec = Jvm.exec) (hb : c.code = cc) (hl : l.stackTraces = false) {own cls text : String} {names : List String} {ik is ic mc ms sa : Nat} {A : Nat → Prop}
    (hown : s.vm.findClass own = some m.cls) (hcls : Bundle.fit cls = true) (hnames : ∀ n ∈ names, Bundle.fit n = true)
    (hk : (Cond.classLink own ik cls).before args s = true) (hini : (Cond.initialized cls).before args s = true) (hstr : vk_R own is text sa s) (hat : ∀ w ∈ vx_atS own ic cls names, w.before args s = true)
    (hgood : ∀ w ∈ Cond.classLink own ik cls :: Cond.initialized cls :: vx_atS own ic cls names, vx_ot w = true)
    (hU : vx_Zq Bundle.tN "UNASSIGNED_STACK" Bundle.steD A s s.heap) (hN : vx_Zq Bundle.tN "SUPPRESSED_SENTINEL" Bundle.listD A s s.heap) (hS : va_S A s.heap H locs) (hsize : ls.size = c.maxLocals)
    (d0 : decode cc pc = .ok (.new ik, 3)) (d3 : decode cc (pc + 3) = .ok (.dup, 1)) (d4 : decode cc (pc + 4) = .ok (.ldc is, 2)) (d6 : decode cc (pc + 6) = .ok (.invokespecial ic, 3)) (d9 : decode cc (pc + 9) = .ok (.athrow, 1))
    (hout : ∀ x ∈ c.exceptionTable.toList, covers x (pc + 9) = false)
    (hRframes : names.length + 3 < R.frames) (hRlocals : (rest.map fun v => v.category).sum + (13 * (names.length + 1) + 43) ≤ R.locals) (hRcells : cells + 1 ≤ R.cells) (hRslots : slots + 6 ≤ R.slots) (hlocks : meth.locks = false)
    (hx : ∀ t : State, s.vm.Alike t.vm → H.size ≤ t.heap.size → (∀ q : Nat, q < H.size → t.heap[q]? = H[q]?) → XC cls s t)
    (hf : ∀ z ∈ locs, free z.base) (hc : cells + 1 ≤ mc) (hs : slots + 6 ≤ ms) :
    W p l e R s m args below meth c H locs cells slots (vx_MQ below Qc XC args s mc ms free) (F0 m pc ls rest) := by
  intro T hT X
  have htr : e.platform.stackTraces = false := (show e.platform.stackTraces = l.stackTraces by rw [X.admits.platform]).trans hl
  have Y := vx_rebase X (R' := { frames := R.frames, locals := R.locals, cells := 1, slots := 6 }) (Nat.le_refl _) (Nat.le_refl _) hRcells hRslots
  obtain ⟨s', hA⟩ : ∃ z, z = (T.setVm s.vm).setFrames (.invoking m args :: below) := ⟨_, rfl⟩
  rw [← hA] at Y
  have hvm : s'.vm = s.vm := by rw [hA]; rfl
  have hhp : s'.heap = H := by rw [hA]; exact hT
  have hW0 : s.WarmedH s'.vm := by rw [hvm]; exact State.WarmedH.refl s
  have hat' : ∀ w ∈ vx_atS own ic cls names, w.before args s' = true := fun w hw => vx_ot_at hW0 hvm.symm (hgood w (List.mem_cons_of_mem _ (List.mem_cons_of_mem _ hw))) (hat w hw)
  have hk' : (Cond.classLink own ik cls).before args s' = true := vx_ot_at hW0 hvm.symm (hgood _ List.mem_cons_self) hk
  have hini' : (Cond.initialized cls).before args s' = true := vx_ot_at hW0 hvm.symm (hgood _ (List.mem_cons_of_mem _ List.mem_cons_self)) hini
  have hU' : vx_Zq Bundle.tN "UNASSIGNED_STACK" Bundle.steD A s' s'.heap := by rw [hhp]; exact vx_Zq.moved hW0.alike (hU.kept hS.2.1)
  have hN' : vx_Zq Bundle.tN "SUPPRESSED_SENTINEL" Bundle.listD A s' s'.heap := by rw [hhp]; exact vx_Zq.moved hW0.alike (hN.kept hS.2.1)
  have h : ∀ w ∈ Bundle.ownAtoms own ic cls names, w.before args s' = true := vx_own hat' (vx_isRefq hU'.1) (vx_isRefq hN'.1) hU'.2.word hN'.2.word
  have hown' : s'.vm.findClass own = some m.cls := by rw [hvm]; exact hown
  have hins : (Cond.instantiable cls 6).before args s' = true := h _ (by simp [Bundle.ownAtoms])
  obtain ⟨vm₁, cX, kX, hfX, hkX, -, -, X₁, st1⟩ := Y.newCold hexec (own := own) (C := cls) (index := ik) (n := 6) hown' hk' hins hini'
    (g := F0 m pc ls rest) rfl (by rw [hb]; exact d0) (Nat.le_refl _) (Nat.le_refl _)
  generalize hT1 : (T.setVm vm₁).pushCell { cls := cX, slots := kX.instanceTypes.map defaultValue, vm := .none } = T1 at X₁ st1
  have hcat : (Value.ref T.heap.size).category = 1 := rfl
  have hcellA : T1.heap[T.heap.size]? = some (freshCell cX kX) := by rw [← hT1]; exact State.heap_pushCell_size _ _
  have d3' : decode c.code (pc + 3) = .ok (.dup, 1) := by rw [hb]; exact d3
  have d4' : decode c.code (pc + 4) = .ok (.ldc is, 2) := by rw [hb]; exact d4
  have hstr' : vk_R own is text sa s' := vk_R.warm hW0 hstr
  obtain ⟨U, hsteps, hrun, hend, hW, hsame, ce, hce, hO⟩ := X₁.ctorThrowS hexec htr (own := own) (cls := cls) (names := names) (ic := ic) hown' hcls hnames h (fun x hx => nomatch hx) hfX hkX hcellA (by rw [hhp, hT]; exact Nat.le_refl _) (msg := .ref sa) rfl
    (g := { method := m, pc := pc + 6, locals := ls, stack := .ref sa :: .ref T.heap.size :: .ref T.heap.size :: rest, locked := none }) rfl hsize rfl rfl (rest := rest) rfl
    (by rw [hb]; exact d6) (by rw [hb]; exact d9) hout hRframes (by simp only [List.map_cons, List.sum_cons, hcat]; omega) hlocks
  obtain ⟨f1, f2⟩ := vx_frame hsame
  rw [hhp] at f1 f2
  have hWs : s.WarmedH U.vm := State.WarmedH.trans hW0 hW
  have hcl : s.vm.findClass cls = some ce.cls := by
    have h9 := hO.cls
    rw [hvm] at h9
    exact h9
  have hall : s.sameButNew ({ U with vm := s.vm } : State) locs mc ms := by
    subst hA
    obtain ⟨e1, e2⟩ := hsame
    rw [State.setFrames_setFrames] at e1
    have h2 : (T.setVm s.vm).sameButNew ({ U with vm := s.vm } : State) [] (0 + 1) (0 + 6) := ⟨e1, e2⟩
    have h3 := X.same.trans h2
    rw [List.append_nil] at h3
    exact h3.mono hc hs
  refine ⟨U, ?_, .threw T.heap.size, hrun, hend, Or.inr ⟨T.heap.size, rfl, cls, ce, locs, hx U hWs.alike f1 (fun q hq => f2 q hq (fun z hz => nomatch hz)), hce, hO.vm, hcl, hWs, hall, hf⟩⟩
  refine st1 _ ?_
  show Steps p.tables e below (T1.setTop { method := m, pc := pc + 3, locals := ls, stack := .ref T.heap.size :: rest, locked := none }) _
  jvm_step X₁.here [X₁.here.top, hexec, d3', Value.category]
  exact X₁.ldcString hexec (own := own) (text := text) (index := is) (a := sa) hown' hstr'.1 hstr'.2
    (g := { method := m, pc := pc + 4, locals := ls, stack := .ref T.heap.size :: .ref T.heap.size :: rest, locked := none }) rfl d4' _ hsteps
/-- 'throw new E("text")', the text by a wide index -/
theorem vx_throwSW {cc : ByteArray} {pc : Nat} (hexec : p.tables.exec = Jvm.exec) (hb : c.code = cc) (hl : l.stackTraces = false) {own cls text : String} {names : List String} {ik is ic mc ms sa : Nat} {A : Nat → Prop}
    (hown : s.vm.findClass own = some m.cls) (hcls : Bundle.fit cls = true) (hnames : ∀ n ∈ names, Bundle.fit n = true)
    (hk : (Cond.classLink own ik cls).before args s = true) (hini : (Cond.initialized cls).before args s = true) (hstr : vk_R own is text sa s) (hat : ∀ w ∈ vx_atS own ic cls names, w.before args s = true)
    (hgood : ∀ w ∈ Cond.classLink own ik cls :: Cond.initialized cls :: vx_atS own ic cls names, vx_ot w = true)
    (hU : vx_Zq Bundle.tN "UNASSIGNED_STACK" Bundle.steD A s s.heap) (hN : vx_Zq Bundle.tN "SUPPRESSED_SENTINEL" Bundle.listD A s s.heap) (hS : va_S A s.heap H locs) (hsize : ls.size = c.maxLocals)
    (d0 : decode cc pc = .ok (.new ik, 3)) (d3 : decode cc (pc + 3) = .ok (.dup, 1)) (d4 : decode cc (pc + 4) = .ok (.ldc_w is, 3)) (d7 : decode cc (pc + 7) = .ok (.invokespecial ic, 3)) (d10 : decode cc (pc + 10) = .ok (.athrow, 1))
    (hout : ∀ x ∈ c.exceptionTable.toList, covers x (pc + 10) = false)
    (hRframes : names.length + 3 < R.frames) (hRlocals : (rest.map fun v => v.category).sum + (13 * (names.length + 1) + 43) ≤ R.locals) (hRcells : cells + 1 ≤ R.cells) (hRslots : slots + 6 ≤ R.slots) (hlocks : meth.locks = false)
    (hx : ∀ t : State, s.vm.Alike t.vm → H.size ≤ t.heap.size → (∀ q : Nat, q < H.size → t.heap[q]? = H[q]?) → XC cls s t)
    (hf : ∀ z ∈ locs, free z.base) (hc : cells + 1 ≤ mc) (hs : slots + 6 ≤ ms) :
    W p l e R s m args below meth c H locs cells slots (vx_MQ below Qc XC args s mc ms free) (F0 m pc ls rest) := by
  intro T hT X
  have htr : e.platform.stackTraces = false := (show e.platform.stackTraces = l.stackTraces by rw [X.admits.platform]).trans hl
  have Y := vx_rebase X (R' := { frames := R.frames, locals := R.locals, cells := 1, slots := 6 }) (Nat.le_refl _) (Nat.le_refl _) hRcells hRslots
  obtain ⟨s', hA⟩ : ∃ z, z = (T.setVm s.vm).setFrames (.invoking m args :: below) := ⟨_, rfl⟩
  rw [← hA] at Y
  have hvm : s'.vm = s.vm := by rw [hA]; rfl
  have hhp : s'.heap = H := by rw [hA]; exact hT
  have hW0 : s.WarmedH s'.vm := by rw [hvm]; exact State.WarmedH.refl s
  have hat' : ∀ w ∈ vx_atS own ic cls names, w.before args s' = true := fun w hw => vx_ot_at hW0 hvm.symm (hgood w (List.mem_cons_of_mem _ (List.mem_cons_of_mem _ hw))) (hat w hw)
  have hk' : (Cond.classLink own ik cls).before args s' = true := vx_ot_at hW0 hvm.symm (hgood _ List.mem_cons_self) hk
  have hini' : (Cond.initialized cls).before args s' = true := vx_ot_at hW0 hvm.symm (hgood _ (List.mem_cons_of_mem _ List.mem_cons_self)) hini
  have hU' : vx_Zq Bundle.tN "UNASSIGNED_STACK" Bundle.steD A s' s'.heap := by rw [hhp]; exact vx_Zq.moved hW0.alike (hU.kept hS.2.1)
  have hN' : vx_Zq Bundle.tN "SUPPRESSED_SENTINEL" Bundle.listD A s' s'.heap := by rw [hhp]; exact vx_Zq.moved hW0.alike (hN.kept hS.2.1)
  have h : ∀ w ∈ Bundle.ownAtoms own ic cls names, w.before args s' = true := vx_own hat' (vx_isRefq hU'.1) (vx_isRefq hN'.1) hU'.2.word hN'.2.word
  have hown' : s'.vm.findClass own = some m.cls := by rw [hvm]; exact hown
  have hins : (Cond.instantiable cls 6).before args s' = true := h _ (by simp [Bundle.ownAtoms])
  obtain ⟨vm₁, cX, kX, hfX, hkX, -, -, X₁, st1⟩ := Y.newCold hexec (own := own) (C := cls) (index := ik) (n := 6) hown' hk' hins hini'
    (g := F0 m pc ls rest) rfl (by rw [hb]; exact d0) (Nat.le_refl _) (Nat.le_refl _)
  generalize hT1 : (T.setVm vm₁).pushCell { cls := cX, slots := kX.instanceTypes.map defaultValue, vm := .none } = T1 at X₁ st1
  have hcat : (Value.ref T.heap.size).category = 1 := rfl
  have hcellA : T1.heap[T.heap.size]? = some (freshCell cX kX) := by rw [← hT1]; exact State.heap_pushCell_size _ _
  have d3' : decode c.code (pc + 3) = .ok (.dup, 1) := by rw [hb]; exact d3
  have d4' : decode c.code (pc + 4) = .ok (.ldc_w is, 3) := by rw [hb]; exact d4
  have hstr' : vk_R own is text sa s' := vk_R.warm hW0 hstr
  obtain ⟨U, hsteps, hrun, hend, hW, hsame, ce, hce, hO⟩ := X₁.ctorThrowS hexec htr (own := own) (cls := cls) (names := names) (ic := ic) hown' hcls hnames h (fun x hx => nomatch hx) hfX hkX hcellA (by rw [hhp, hT]; exact Nat.le_refl _) (msg := .ref sa) rfl
    (g := { method := m, pc := pc + 7, locals := ls, stack := .ref sa :: .ref T.heap.size :: .ref T.heap.size :: rest, locked := none }) rfl hsize rfl rfl (rest := rest) rfl
    (by rw [hb]; exact d7) (by rw [hb]; exact d10) hout hRframes (by simp only [List.map_cons, List.sum_cons, hcat]; omega) hlocks
  obtain ⟨f1, f2⟩ := vx_frame hsame
  rw [hhp] at f1 f2
  have hWs : s.WarmedH U.vm := State.WarmedH.trans hW0 hW
  have hcl : s.vm.findClass cls = some ce.cls := by
    have h9 := hO.cls
    rw [hvm] at h9
    exact h9
  have hall : s.sameButNew ({ U with vm := s.vm } : State) locs mc ms := by
    subst hA
    obtain ⟨e1, e2⟩ := hsame
    rw [State.setFrames_setFrames] at e1
    have h2 : (T.setVm s.vm).sameButNew ({ U with vm := s.vm } : State) [] (0 + 1) (0 + 6) := ⟨e1, e2⟩
    have h3 := X.same.trans h2
    rw [List.append_nil] at h3
    exact h3.mono hc hs
  refine ⟨U, ?_, .threw T.heap.size, hrun, hend, Or.inr ⟨T.heap.size, rfl, cls, ce, locs, hx U hWs.alike f1 (fun q hq => f2 q hq (fun z hz => nomatch hz)), hce, hO.vm, hcl, hWs, hall, hf⟩⟩
  refine st1 _ ?_
  show Steps p.tables e below (T1.setTop { method := m, pc := pc + 3, locals := ls, stack := .ref T.heap.size :: rest, locked := none }) _
  jvm_step X₁.here [X₁.here.top, hexec, d3', Value.category]
  exact X₁.ldcStringW hexec (own := own) (text := text) (index := is) (a := sa) hown' hstr'.1 hstr'.2
    (g := { method := m, pc := pc + 4, locals := ls, stack := .ref T.heap.size :: .ref T.heap.size :: rest, locked := none }) rfl d4' _ hsteps
end Ends
section Bodies
variable {l : Launch}
theorem vx_ofW {y : MethodName} {ws ws' : List Cond} {rm : Room} {Pc : Array Value → State → Prop} {Qc : Array Value → State → Outcome → State → Prop} {XC : String → State → State → Prop} {mc ms : Nat} {free : Addr → Prop} {cc : ByteArray} {maxL : Nat} {ret : Option FieldType}
    (hy : plainName y.cls = true) (hw : ws = Cond.code y cc maxL ret :: ws')
    (body : ∀ p e s m args below meth c s₁, BodyLoose p l y (headSpec ws rm) cc maxL ret e s m args below meth c s₁ → c.maxLocals = maxL → (∀ x ∈ c.exceptionTable.toList, False) → Pc args s →
      W p l e (headSpec ws rm).room s m args below meth c s.heap [] 0 0 (vx_MQ below Qc XC args s mc ms free) (entryFrame m args maxL)) : vx_Met l y ws rm Pc Qc XC mc ms free := by
  refine MetFree.of_bodyS (code := cc) (maxLocals := maxL) (ret := ret) hy ?_ ?_
  · intro args s m h hn
    obtain ⟨meth, c, h1, h2, h3, h4, h5, h6, -, -⟩ := Cond.code_spec hn (atoms_spec (ws := ws) h _ (by rw [hw]; exact List.mem_cons_self))
    exact ⟨meth, c, h1, h2, h3, h4, h5, h6⟩
  · intro p e s m args below meth c s₁ B hml hP _
    have hh0 : s₁.heap = s.heap := by rw [B.state]; rfl
    have ht : ∀ x ∈ c.exceptionTable.toList, False := by
      obtain ⟨meth9, c9, h1, h2, -, -, -, -, h7, -⟩ := Cond.code_spec B.named (atoms_spec (ws := ws) B.pre _ (by rw [hw]; exact List.mem_cons_self))
      cases Option.some.inj (h1.symm.trans B.method)
      cases Option.some.inj (h2.symm.trans (Stand.of_body B).code)
      intro x hx
      rw [Array.isEmpty_iff.mp h7] at hx
      cases hx
    obtain ⟨t, a1, o, b1, b2, b3⟩ := body p e s m args below meth c s₁ B hml ht hP s₁ hh0 (Stand.of_body B)
    exact ⟨t, o, a1, b1, b2, b3⟩
/-- the table of a body with handlers -/
theorem vx_table {p : Program} {x y : MethodName} {S : Spec} {cc bytes : ByteArray} {maxL maxL' : Nat} {ret ret' : Option FieldType} {e : Env} {s s₁ : State} {m : MethodId} {args : Array Value} {below : List Frame} {meth : Method} {c : Code} {hh : List (Nat × Nat × Nat × Nat)}
    (B : BodyLoose p l y S cc maxL ret e s m args below meth c s₁) (h : (Cond.codeWith y bytes maxL' ret' hh).before args s = true) : c.exceptionTable.toList = tableOf hh := by
  obtain ⟨m9, meth9, c9, hn9, h1, h2, -, -, h6, -⟩ := Cond.codeWith_spec h
  cases Option.some.inj (hn9.symm.trans B.named)
  cases Option.some.inj (h1.symm.trans B.method)
  cases Option.some.inj (h2.symm.trans (Stand.of_body B).code)
  rw [← h6, table_eq]
end Bodies
end VXA
/-! ===== END ===== -/
/-! ===== BEGIN a static call of a method with an exception table ===== -/
section VXS
variable {p : Program} {l : Launch} {e : Env} {R : Room} {s : State} {m : MethodId} {args : Array Value} {below : List Frame} {meth : Method} {c : Code} {T : State} {H : Heap} {locs : List Loc} {cells slots : Nat}
abbrev vx_CSW (R : Room) (s : State) (args : Array Value) (own : String) (index : Nat) (y : MethodName) (bytes : ByteArray) (maxL : Nat) (ret : Option FieldType) (hh : List (Nat × Nat × Nat × Nat)) (ws : List Cond) (rm : Room) (mc ms n : Nat) : Prop :=
  (rm.cells = mc ∧ rm.slots = ms ∧ rm.frames + 1 ≤ R.frames ∧ 8 + (maxL + 11) + rm.locals ≤ R.locals ∧ (∀ w ∈ ws, ∀ (a' : Array Value) (U : State), s.WarmedH U.vm → w.before a' U = true) ∧ Cond.codeWith y bytes maxL ret hh ∈ ws) ∧
  (Cond.codeWith y bytes maxL ret hh).before args s = true ∧ (Cond.initialized y.cls).before args s = true ∧ (y.cls ≠ "java/lang/invoke/MethodHandle" ∧ y.cls ≠ "java/lang/invoke/VarHandle") ∧
  (∀ sig, parseMethodDescriptor y.desc = some sig → n = sig.parameters.length) ∧ (Cond.methodLink own index y).before args s = true ∧ (Cond.static y).before args s = true
theorem vx_cwSW {own : String} {index maxL mc ms : Nat} {y : MethodName} {bytes : ByteArray} {ret : Option FieldType} {hh : List (Nat × Nat × Nat × Nat)} {Ts ws ws' : List Cond} {rm : Room} (n : Nat) (ht : ∀ w ∈ Ts, w.before args s = true) (hT : GoodIn Ts (va_wsS own index y ws)) (hw : ws = Cond.codeWith y bytes maxL ret hh :: ws') (hrc : rm.cells = mc) (hrs : rm.slots = ms)
    (hd : y.cls ≠ "java/lang/invoke/MethodHandle" ∧ y.cls ≠ "java/lang/invoke/VarHandle" ∧ (parseMethodDescriptor y.desc).map (fun d => d.parameters.length) = some n) (hR : rm.frames + 1 ≤ R.frames ∧ 8 + (maxL + 11) + rm.locals ≤ R.locals) :
    vx_CSW R s args own index y bytes maxL ret hh ws rm mc ms n := by
  have ok : ∀ w ∈ va_wsS own index y ws, w.before args s = true := fun w h => ht w (hT w h).1
  have hG : GoodIn Ts ws := fun w h => hT w (by unfold va_wsS; exact List.mem_append_right _ h)
  have hc : Cond.codeWith y bytes maxL ret hh ∈ ws := by rw [hw]; exact List.mem_cons_self
  refine ⟨⟨hrc, hrs, hR.1, hR.2, pay_in ht hG, hc⟩, ht _ (hG _ hc).1, ok _ (by simp [va_wsS]), ⟨hd.1, hd.2.1⟩, fun sig h => ?_, ok _ (by simp [va_wsS]), ok _ (by simp [va_wsS])⟩
  have h2 := hd.2.2
  rw [h] at h2
  exact (Option.some.inj h2).symm
theorem vx_callSW (X : Stand p l e R s m args below meth c T locs cells slots) (hexec : p.tables.exec = Jvm.exec) {own : String} {index : Nat} {y : MethodName} {bytes : ByteArray} {maxL : Nat} {ret : Option FieldType} {hh : List (Nat × Nat × Nat × Nat)}
    (hown : s.vm.findClass own = some m.cls) (hlink : (Cond.methodLink own index y).before args s = true) (hstat : (Cond.static y).before args s = true) (hinit : (Cond.initialized y.cls).before args s = true)
    (hcode : (Cond.codeWith y bytes maxL ret hh).before args s = true) (hy : y.cls ≠ "java/lang/invoke/MethodHandle" ∧ y.cls ≠ "java/lang/invoke/VarHandle")
    {W9 : Nat} {Pre : Pt → Array Value → Prop} {Post : Pt → Array Value → Option Value → Pt → Prop} (hK : Back l R p e below s args y 3 W9 Pre Post)
    {g : JFrame} (hg : g.method = m) (hsize : g.locals.size = c.maxLocals) {argsL rest : List Value} (hlen : ∀ sig, parseMethodDescriptor y.desc = some sig → argsL.length = sig.parameters.length)
    (hstack : g.stack = argsL.reverse ++ rest) (hW : 2 * g.monitorRoom + (rest.map fun v => v.category).sum ≤ W9) (hdg : decode c.code g.pc = .ok (.invokestatic index, 3))
    (hpre : ∀ vm₁, s.WarmedH vm₁ → Pre ⟨T.setVm vm₁, locs, cells, slots⟩ argsL.toArray) :
    ∃ (v : Option Value) (vm₁ : Vm) (B : Pt), s.WarmedH vm₁ ∧ Stand p l e R s m args below meth c B.U B.locs B.cells B.slots ∧ Post ⟨T.setVm vm₁, locs, cells, slots⟩ argsL.toArray v B ∧
      ∀ target, Steps p.tables e below (B.U.setTop { g with pc := g.pc + 3, stack := v.toList ++ rest }) target → Steps p.tables e below (T.setTop g) target := by
  obtain ⟨mk, methM, cM, hnamed, hmethM, -, -, -, -, -, -, hsigM⟩ := Cond.codeWith_spec hcode
  have hstatic : methM.isStatic = true := Cond.static_spec hnamed hmethM hstat
  obtain ⟨kP, hkP, -⟩ := className_of_methodNamed hnamed
  have hinitP : kP.init = .initialized := Cond.initialized_spec (findClass_of_methodNamed hnamed) hkP hinit
  obtain ⟨vm₁, X₁, hstep₁⟩ := X.invokestatic hexec hown hlink hnamed hmethM hstatic hkP hinitP hy (g := g) hg (argsL := argsL) (rest := rest) (hlen _ hsigM) hstack hdg
  obtain ⟨v, B, X', hpost, hsteps⟩ := hK m meth c ⟨T.setVm vm₁, locs, cells, slots⟩ { g with stack := rest } (.invokestatic index) mk argsL.toArray X₁ hg hsize hdg hW (X₁.named hnamed) (hpre vm₁ X₁.warmed)
  exact ⟨v, vm₁, B, X₁.warmed, X', hpost, fun target h => hstep₁ _ fun acts => by rw [doInvoke_state]; exact hsteps.trans h⟩
theorem vx_runSW {y : MethodName} {bytes cc : ByteArray} {maxL nL mc ms n index : Nat} {ret : Option FieldType} {hh : List (Nat × Nat × Nat × Nat)} {ws : List Cond} {rm : Room} {Pc : Array Value → State → Prop} {Qc : Array Value → State → Outcome → State → Prop} {free : Addr → Prop} {Ts : List Cond} {own : String} {As rest : List Value} {g : JFrame}
    (S : CallFix p m c cc nL s args Ts own) (hM : Met l y ws rm Pc Qc mc ms free) (cw : vx_CSW R s args own index y bytes maxL ret hh ws rm mc ms n) (hp : PreS s H Pc As)
    (hg : g.method = m) (hn : As.length = n) (hsize : g.locals.size = nL) (hstack : g.stack = As.reverse ++ rest) (hW : 2 * g.monitorRoom + (rest.map fun v => v.category).sum ≤ 8) (hdg : decode cc g.pc = .ok (.invokestatic index, 3)) (hf : cells + mc ≤ R.cells ∧ slots + ms ≤ R.slots) :
    va_Run p l e R s m args below meth c H locs cells slots mc ms g rest (Qc As.toArray) (free) := by
  obtain ⟨⟨hrc, hrs, hfr, hlo, hws, hcw⟩, hcode, hini, hy, hlen, hl, hstt⟩ := cw
  have hK : Back l R p e below s args y 3 8 (PreOf R mc ms Pc) (PostOf Qc mc ms free) := va_backW (hh := hh) (bytes := bytes) (maxL := maxL) (ret := ret) hM hp.1 hrc hrs hfr hlo hws hcw (fun a' U hW => word_at hW (Or.inl (by first | rfl | simp [Cond.onTables, Cond.keeps, Cond.steady])) hini)
  obtain ⟨hx, hb, hml, ho, -⟩ := S
  intro T hT X
  obtain ⟨v, vm₁, ⟨U', l2, c2, s2⟩, hW₁, X', ⟨g', mk, t, L, e1, e2, hq, h1, hL, h2, h3⟩, st⟩ := vx_callSW X hx (hh := hh) (bytes := bytes) (maxL := maxL) (ret := ret) ho hl hstt hini hcode hy hK hg (hsize.trans hml.symm) (argsL := As) (rest := rest) (fun sig h => hn.trans (hlen sig h)) hstack hW (by rw [hb]; exact hdg)
    (fun vm₁ hW₁ => ⟨hf.1, hf.2, hp.2 (T.setVm vm₁) hT hW₁⟩)
  dsimp only [Pt.U, Pt.locs, Pt.cells, Pt.slots] at X' e1 e2 h1 h2 h3 st
  subst h1; subst h2; subst h3
  exact ⟨v, (T.setVm vm₁).calling g' mk As.toArray, t, U', L, hT, X', hL, e1, e2, hq, st⟩
/-- not caught here, past rows that name other classes: it goes on to the caller -/
theorem vx_outP {p : Program} {l : Launch} {e : Env} {R : Room} {s : State} {m : MethodId} {args : Array Value} {below : List Frame} {meth : Method} {c : Code} {H : Heap} {locs : List Loc} {cells slots : Nat} {free : Addr → Prop} {ls : Array Slot} {rest : List Value} {Qc : Array Value → State → Outcome → State → Prop} {XC : String → State → State → Prop}
    {pc : Nat} {own E : String} {ce : Cell} {q : Addr} {mc ms : Nat} (hown : s.vm.findClass own = some m.cls) (hlocks : meth.locks = false)
    (hpass : ∀ z ∈ c.exceptionTable.toList, covers z pc = false ∨ (z.catchType ≠ 0 ∧ ∃ nm : String, (Cond.classLink own z.catchType nm).before args s = true ∧ va_Nc E nm s)) (hcell : H[q]? = some ce) (hv : ce.vm = .none) (hcl : s.vm.findClass E = some ce.cls)
    (hx : ∀ t : State, t.heap = H → s.vm.Alike t.vm → XC E s t) (hf : ∀ z ∈ locs, free z.base) (hc : cells ≤ mc) (hs : slots ≤ ms) :
    vx_W p l e R s m args below meth c H locs cells slots (vx_MQ below Qc XC args s mc ms free) (F0 m pc ls rest) q := by
  intro T hT X
  have hpl : e.platform.magicAccessors = ({} : Platform).magicAccessors := by rw [X.admits.platform]
  obtain ⟨vm', hW', X', st⟩ := X.outThrough hlocks q (g := F0 m pc ls rest) rfl rfl rfl (cell := ce) (by rw [hT]; exact hcell) (by rw [hv]; rfl)
    (by obtain ⟨k9, h9, -⟩ := Vm.findClass_spec hcl; exact ⟨k9, h9⟩) (fun z hz => by
      rcases hpass z hz with h | ⟨hz0, nm, hl1, hn1⟩
      · exact Or.inl h
      · obtain ⟨c6, hc6, hcl6⟩ := Cond.classLink_spec hown hl1 e.platform hpl
        obtain ⟨a8, b8, h1, h2, h3⟩ := hn1
        cases Option.some.inj (h1.symm.trans hcl)
        cases Option.some.inj (h2.symm.trans hc6)
        exact Or.inr ⟨hz0, _, hcl6, h3⟩)
  obtain ⟨g₀, hfr⟩ := X'.frames_eq
  have hcell9 : ((T.setVm vm').setFrames (.throwing q :: below)).heap[q]? = some ce := by
    show T.heap[q]? = some ce
    rw [hT]; exact hcell
  have hend : Ended ((T.setVm vm').setFrames (.throwing q :: below)) below (.threw q) := State.frames_setFrames _ (State.cur_lt_of_frames hfr)
  refine ⟨(T.setVm vm').setFrames (.throwing q :: below), ?_, .threw q, X'.here.running, hend, Or.inr ⟨q, rfl, E, ce, locs, hx _ hT (X'.ends _).1.alike, hcell9, hv, hcl, (X'.ends _).1, (X'.ends _).2.mono hc hs, hf⟩⟩
  rw [X.pushThrowing_eq]
  exact st
/-- a thing of a world lies in the heap -/
theorem vx_lt {D : va_G} {cl : List vw_C} {ws : va_W} {H1 : Heap} (h : va_P D cl ws H1) {k : Nat} {q : Nat × va_E} (hk : ws[k]? = some q) : q.1 < H1.size := (h k q hk).lt
end VXS
/-! ===== END ===== -/
/-! ===== BEGIN methods with a table of their own: called by a name, returning or throwing ===== -/
section VXH
/-! vx_backW, vx_callVX, vx_callSX, vx_callVW, vx_runVW, vx_runVX, vx_runSX, vx_ofWH follow the same proofs as their sisters above (Free/Laws.lean, Shelf42/LK1.lean); vx_outP calls Shelf42/NT130.lean (outThrough). -/
section
variable {l : Launch} {R : Room} {p : Program} {e : Env} {below : List Frame} {s : State} {sargs : Array Value} {y : MethodName} {len W9 : Nat}
theorem vx_backW {ws : List Cond} {rm : Room} {Pc : Array Value → State → Prop} {Qc : Array Value → State → Outcome → State → Prop} {XC : String → State → State → Prop} {mc ms : Nat} {free : Addr → Prop} {bytes : ByteArray} {maxL : Nat} {ret : Option FieldType} {hh : List (Nat × Nat × Nat × Nat)}
    (hM : vx_Met l y ws rm Pc Qc XC mc ms free) (hblind : FrameBlind Pc) (hrc : rm.cells = mc) (hrs : rm.slots = ms)
    (hframes : rm.frames + 1 ≤ R.frames) (hlocals : W9 + (maxL + 11) + rm.locals ≤ R.locals)
    (hws : ∀ w ∈ ws, ∀ a' U, s.WarmedH U.vm → w.before a' U = true) (hcode : Cond.codeWith y bytes maxL ret hh ∈ ws) (hinit : ∀ a' U, s.WarmedH U.vm → (Cond.initialized y.cls).before a' U = true) :
    vx_Back l R p e below s sargs y len W9 (PreOf R mc ms Pc) (PostOf Qc mc ms free) (vx_Post XC mc ms free) := by
  intro m meth c A g ig mk a X hg hsize hdg hW hn hp
  have h1 : (headSpec ws rm).pre.before a A.U = true := atoms_intro fun w hw => hws w hw _ _ X.warmed
  have h2 : (Cond.codeWith y bytes maxL ret hh).before a A.U = true := hws _ hcode _ _ X.warmed
  have h3 : (Cond.initialized y.cls).before a A.U = true := hinit _ _ X.warmed
  have h4 : A.cells + (headSpec ws rm).room.cells ≤ R.cells := by rw [show (headSpec ws rm).room.cells = mc from hrc]; exact hp.1
  have h5 : A.slots + (headSpec ws rm).room.slots ≤ R.slots := by rw [show (headSpec ws rm).room.slots = ms from hrs]; exact hp.2.1
  have hPc : Pc a (A.U.calling g mk a) := hblind _ _ _ _ hp.2.2
  obtain ⟨U, Ls, c0, s0⟩ := A
  dsimp only [Pt.U, Pt.locs, Pt.cells, Pt.slots] at h1 h2 h3 h4 h5 X hn hPc ⊢
  obtain ⟨m9, methY, cY, hn9, hmY, hcY, -, hlY, -⟩ := Cond.codeWith_spec h2
  cases Option.some.inj (hn9.symm.trans hn)
  obtain ⟨kY, hkY, -⟩ := className_of_methodNamed hn
  have hinitY : kY.init = .initialized := Cond.initialized_spec (findClass_of_methodNamed hn) hkY h3
  have h : At U g.method c below := by rw [hg]; exact X.here
  have hlocals9 : W9 + (maxL + 11) + (headSpec ws rm).room.locals ≤ R.locals := hlocals
  have happ : (headSpec ws rm).appliesLoose y e.platform (U.calling g mk a) = true :=
    Spec.appliesLoose_calling (g := g) h hdg hn hkY hinitY
      (X.room_calling (g := g) (R' := (headSpec ws rm).room) hsize hmY hcY hframes (by rw [hlY]; omega) h4 h5) h1
  obtain ⟨mid, hmid⟩ := h.above
  have hfr : (U.setTop g).frames = (.java g :: mid) ++ below := by rw [State.frames_setTop' g h.top, hmid]; rfl
  obtain ⟨o, s₂, hsteps, -, hend, hq⟩ := Steps.callFree hM p X.admits X.cas X.clock (acts := []) hfr happ hPc trivial
  have hq' : vx_Q Qc XC mc ms free a (U.calling g mk a) o s₂ := hq
  rw [State.frames_setTop' g h.top] at hend
  obtain ⟨g₀, hg0⟩ := Option.isSome_iff_exists.mp h.top
  obtain ⟨r, hr⟩ := State.topJava?_eq_some.mp hg0
  have hr' : (({ U with heap := s₂.heap, slotsUsed := s₂.slotsUsed } : State).setVm s₂.vm).frames = .java g₀ :: r := hr
  rcases hq' with ⟨hqc, L, hfe, hL⟩ | ⟨q, rfl, E, ce, L, hx, hce, hcv, hcl, hW₂, hsm, hL⟩
  · obtain ⟨⟨v, rfl⟩, hW₂, e2, q2, q3, q4, q5, q6⟩ := id hfe
    have e3 : s₂ = ({ (U.calling g mk a).setFrames s₂.frames with heap := s₂.heap, slotsUsed := s₂.slotsUsed } : State).setVm s₂.vm := by
      have : s₂ = ({ s₂ with vm := (U.calling g mk a).vm } : State).setVm s₂.vm := rfl
      rw [e2] at this
      exact this
    obtain ⟨c₂, i₂, len₂, hc₂, hd₂, hf₂⟩ := hend
    have hW' : U.WarmedH s₂.vm := hW₂
    have hcc : c₂ = c := by
      have h1 : s₂.code? g.method = U.code? g.method := by
        rw [State.code?_eq, State.code?_eq, hW'.alike.method?]
      exact Option.some.inj (hc₂.symm.trans (h1.trans h.code))
    subst hcc
    have hlen : len₂ = len := by rw [hdg] at hd₂; cases hd₂; rfl
    subst hlen
    have hs₂ : s₂ = (({ U with heap := s₂.heap, slotsUsed := s₂.slotsUsed } : State).setVm s₂.vm).setTop { g with pc := g.pc + len₂, stack := v.toList ++ g.stack } := by
      refine e3.trans ?_
      rw [hf₂, State.calling_eq h.top, State.setFrames_setFrames, State.setTop_of_frames _ hr', hr]
      rfl
    have hsame : U.sameButNew ({ U with heap := s₂.heap, slotsUsed := s₂.slotsUsed } : State) L mc ms := by
      refine ⟨?_, q2, q3, q4, q5, q6⟩
      obtain ⟨t, ht, -⟩ := State.frames_cons hr
      show ({ U with heap := s₂.heap, slotsUsed := s₂.slotsUsed } : State) = { U.setFrames U.frames with heap := s₂.heap, slotsUsed := s₂.slotsUsed }
      rw [State.setFrames_self ht]
    subst hg
    refine Or.inl ⟨v, ⟨(({ U with heap := s₂.heap, slotsUsed := s₂.slotsUsed } : State).setVm s₂.vm), Ls ++ L, c0 + mc, s0 + ms⟩,
      ⟨X.admits, X.cas, X.clock, X.frames, X.room, X.hears, X.method, X.code, (X.here.setHeapUsed s₂.heap s₂.slotsUsed).setVm hW'.alike, X.tail, State.WarmedH.trans X.warmed hW', X.limits, X.bytes, X.same.trans (hsame.setVm s.vm)⟩,
      ⟨g, mk, s₂, L, rfl, rfl, hqc, rfl, hL, rfl, rfl⟩, ?_⟩
    show Steps p.tables e below _ ((({ U with heap := s₂.heap, slotsUsed := s₂.slotsUsed } : State).setVm s₂.vm).setTop { g with pc := g.pc + len₂, stack := v.toList ++ g.stack })
    rw [← hs₂]
    exact hsteps
  · obtain ⟨e2, q2, q3, q4, q5, q6⟩ := id hsm
    have e3 : s₂ = ({ (U.calling g mk a).setFrames s₂.frames with heap := s₂.heap, slotsUsed := s₂.slotsUsed } : State).setVm s₂.vm := by
      have : s₂ = ({ s₂ with vm := (U.calling g mk a).vm } : State).setVm s₂.vm := rfl
      rw [e2] at this
      exact this
    have hf₂ : s₂.frames = .throwing q :: .java g :: U.frames.tail := hend
    have hW' : U.WarmedH s₂.vm := hW₂
    have hs₂ : s₂ = ((({ U with heap := s₂.heap, slotsUsed := s₂.slotsUsed } : State).setVm s₂.vm).setTop g).pushFrame (.throwing q) := by
      refine e3.trans ?_
      rw [hf₂, State.calling_eq h.top, State.setFrames_setFrames, State.pushFrame, State.frames_setTop _ hr', State.setTop_of_frames _ hr', State.setFrames_setFrames, hr]
      rfl
    have hsame : U.sameButNew ({ U with heap := s₂.heap, slotsUsed := s₂.slotsUsed } : State) L mc ms := by
      refine ⟨?_, q2, q3, q4, q5, q6⟩
      obtain ⟨t, ht, -⟩ := State.frames_cons hr
      show ({ U with heap := s₂.heap, slotsUsed := s₂.slotsUsed } : State) = { U.setFrames U.frames with heap := s₂.heap, slotsUsed := s₂.slotsUsed }
      rw [State.setFrames_self ht]
    subst hg
    refine Or.inr ⟨q, ⟨(({ U with heap := s₂.heap, slotsUsed := s₂.slotsUsed } : State).setVm s₂.vm), Ls ++ L, c0 + mc, s0 + ms⟩,
      ⟨X.admits, X.cas, X.clock, X.frames, X.room, X.hears, X.method, X.code, (X.here.setHeapUsed s₂.heap s₂.slotsUsed).setVm hW'.alike, X.tail, State.WarmedH.trans X.warmed hW', X.limits, X.bytes, X.same.trans (hsame.setVm s.vm)⟩,
      ⟨g, mk, s₂, L, E, ce, rfl, rfl, hx, hce, hcv, hcl, rfl, hL, rfl, rfl⟩, ?_⟩
    show Steps p.tables e below _ (((({ U with heap := s₂.heap, slotsUsed := s₂.slotsUsed } : State).setVm s₂.vm).setTop g).pushFrame (.throwing q))
    rw [← hs₂]
    exact hsteps
end
variable {p : Program} {l : Launch} {e : Env} {R : Room} {s : State} {m : MethodId} {args : Array Value} {below : List Frame} {meth : Method} {c : Code} {T : State} {H : Heap} {locs : List Loc} {cells slots : Nat}
theorem vx_callVX (X : Stand p l e R s m args below meth c T locs cells slots) (hexec : p.tables.exec = Jvm.exec) {own C : String} {index : Nat} {y : MethodName} {bytes : ByteArray} {maxL : Nat} {ret : Option FieldType} {hh : List (Nat × Nat × Nat × Nat)}
    (hown : s.vm.findClass own = some m.cls) (hlink : (Cond.methodLink own index y).before args s = true) (hinst : (Cond.instanceMethod y).before args s = true) (hsel : (Cond.selects C y y).before args s = true)
    (hcode : (Cond.codeWith y bytes maxL ret hh).before args s = true) (hy : y.cls ≠ "java/lang/invoke/MethodHandle" ∧ y.cls ≠ "java/lang/invoke/VarHandle")
    {W9 : Nat} {Pre : Pt → Array Value → Prop} {Post : Pt → Array Value → Option Value → Pt → Prop} {PostX : Pt → Array Value → Addr → Pt → Prop} (hK : vx_Back l R p e below s args y 3 W9 Pre Post PostX)
    {b : Addr} {cellB : Cell} (hcell : T.heap[b]? = some cellB) (hobj : cellB.vm.isStatics = false) (hcls : s.vm.findClass C = some cellB.cls)
    {g : JFrame} (hg : g.method = m) (hsize : g.locals.size = c.maxLocals) {argsL rest : List Value} (hlen : ∀ sig, parseMethodDescriptor y.desc = some sig → argsL.length = sig.parameters.length)
    (hstack : g.stack = argsL.reverse ++ .ref b :: rest) (hW : 2 * g.monitorRoom + (rest.map fun v => v.category).sum ≤ W9) (hdg : decode c.code g.pc = .ok (.invokevirtual index, 3))
    (hpre : ∀ vm₁, s.WarmedH vm₁ → Pre ⟨T.setVm vm₁, locs, cells, slots⟩ (Value.ref b :: argsL).toArray) :
    (∃ (v : Option Value) (vm₁ : Vm) (B : Pt), s.WarmedH vm₁ ∧ Stand p l e R s m args below meth c B.U B.locs B.cells B.slots ∧ Post ⟨T.setVm vm₁, locs, cells, slots⟩ (Value.ref b :: argsL).toArray v B ∧
      ∀ target, Steps p.tables e below (B.U.setTop { g with pc := g.pc + 3, stack := v.toList ++ rest }) target → Steps p.tables e below (T.setTop g) target) ∨
    (∃ (q : Addr) (vm₁ : Vm) (B : Pt), s.WarmedH vm₁ ∧ Stand p l e R s m args below meth c B.U B.locs B.cells B.slots ∧ PostX ⟨T.setVm vm₁, locs, cells, slots⟩ (Value.ref b :: argsL).toArray q B ∧
      Steps p.tables e below (T.setTop g) ((B.U.setTop { g with stack := rest }).pushFrame (.throwing q))) := by
  obtain ⟨mk, methM, hnamed, hmethM, hstM, habM⟩ := Cond.instanceMethod_spec hinst
  obtain ⟨m8, methM', cM, hn8, hmethM', -, -, -, -, -, -, hsigM⟩ := Cond.codeWith_spec hcode
  cases Option.some.inj (hn8.symm.trans hnamed)
  cases hmethM.symm.trans hmethM'
  obtain ⟨c2, r2, m2, q1, q2, q3, q4, kP, hkP, hkPi⟩ := Cond.selects_spec hsel
  cases hcls.symm.trans q1
  cases (State.methodFound?_of_named hnamed hy).symm.trans q2
  cases hnamed.symm.trans q3
  have hselP : selectMethod e.platform s.vm cellB.cls mk = .method mk := by rw [Launch.admits_selectMethod X.admits]; exact q4
  obtain ⟨vm₁, X₁, hstep₁⟩ := X.invokevirtual hexec hown hlink hnamed hmethM hstM hkP hkPi hy (a := b) (cell := cellB) hcell
    (fun z h => by rw [h] at hobj; cases hobj) hselP hmethM habM hkP hkPi (g := g) hg (argsL := argsL) (rest := rest) (hlen _ hsigM) hstack hdg
  rcases hK m meth c ⟨T.setVm vm₁, locs, cells, slots⟩ { g with stack := rest } (.invokevirtual index) mk (Value.ref b :: argsL).toArray X₁ hg hsize hdg hW (X₁.named hnamed) (hpre vm₁ X₁.warmed) with ⟨v, B, X', hpost, hsteps⟩ | ⟨q, B, X', hpost, hsteps⟩
  · exact Or.inl ⟨v, vm₁, B, X₁.warmed, X', hpost, fun target h => hstep₁ _ fun acts => by rw [doInvoke_state]; exact hsteps.trans h⟩
  · exact Or.inr ⟨q, vm₁, B, X₁.warmed, X', hpost, hstep₁ _ fun acts => by rw [doInvoke_state]; exact hsteps⟩
theorem vx_callSX (X : Stand p l e R s m args below meth c T locs cells slots) (hexec : p.tables.exec = Jvm.exec) {own : String} {index : Nat} {y : MethodName} {bytes : ByteArray} {maxL : Nat} {ret : Option FieldType} {hh : List (Nat × Nat × Nat × Nat)}
    (hown : s.vm.findClass own = some m.cls) (hlink : (Cond.methodLink own index y).before args s = true) (hstat : (Cond.static y).before args s = true) (hinit : (Cond.initialized y.cls).before args s = true)
    (hcode : (Cond.codeWith y bytes maxL ret hh).before args s = true) (hy : y.cls ≠ "java/lang/invoke/MethodHandle" ∧ y.cls ≠ "java/lang/invoke/VarHandle")
    {W9 : Nat} {Pre : Pt → Array Value → Prop} {Post : Pt → Array Value → Option Value → Pt → Prop} {PostX : Pt → Array Value → Addr → Pt → Prop} (hK : vx_Back l R p e below s args y 3 W9 Pre Post PostX)
    {g : JFrame} (hg : g.method = m) (hsize : g.locals.size = c.maxLocals) {argsL rest : List Value} (hlen : ∀ sig, parseMethodDescriptor y.desc = some sig → argsL.length = sig.parameters.length)
    (hstack : g.stack = argsL.reverse ++ rest) (hW : 2 * g.monitorRoom + (rest.map fun v => v.category).sum ≤ W9) (hdg : decode c.code g.pc = .ok (.invokestatic index, 3))
    (hpre : ∀ vm₁, s.WarmedH vm₁ → Pre ⟨T.setVm vm₁, locs, cells, slots⟩ argsL.toArray) :
    (∃ (v : Option Value) (vm₁ : Vm) (B : Pt), s.WarmedH vm₁ ∧ Stand p l e R s m args below meth c B.U B.locs B.cells B.slots ∧ Post ⟨T.setVm vm₁, locs, cells, slots⟩ argsL.toArray v B ∧
      ∀ target, Steps p.tables e below (B.U.setTop { g with pc := g.pc + 3, stack := v.toList ++ rest }) target → Steps p.tables e below (T.setTop g) target) ∨
    (∃ (q : Addr) (vm₁ : Vm) (B : Pt), s.WarmedH vm₁ ∧ Stand p l e R s m args below meth c B.U B.locs B.cells B.slots ∧ PostX ⟨T.setVm vm₁, locs, cells, slots⟩ argsL.toArray q B ∧
      Steps p.tables e below (T.setTop g) ((B.U.setTop { g with stack := rest }).pushFrame (.throwing q))) := by
  obtain ⟨mk, methM, cM, hnamed, hmethM, -, -, -, -, -, -, hsigM⟩ := Cond.codeWith_spec hcode
  have hstatic : methM.isStatic = true := Cond.static_spec hnamed hmethM hstat
  obtain ⟨kP, hkP, -⟩ := className_of_methodNamed hnamed
  have hinitP : kP.init = .initialized := Cond.initialized_spec (findClass_of_methodNamed hnamed) hkP hinit
  obtain ⟨vm₁, X₁, hstep₁⟩ := X.invokestatic hexec hown hlink hnamed hmethM hstatic hkP hinitP hy (g := g) hg (argsL := argsL) (rest := rest) (hlen _ hsigM) hstack hdg
  rcases hK m meth c ⟨T.setVm vm₁, locs, cells, slots⟩ { g with stack := rest } (.invokestatic index) mk argsL.toArray X₁ hg hsize hdg hW (X₁.named hnamed) (hpre vm₁ X₁.warmed) with ⟨v, B, X', hpost, hsteps⟩ | ⟨q, B, X', hpost, hsteps⟩
  · exact Or.inl ⟨v, vm₁, B, X₁.warmed, X', hpost, fun target h => hstep₁ _ fun acts => by rw [doInvoke_state]; exact hsteps.trans h⟩
  · exact Or.inr ⟨q, vm₁, B, X₁.warmed, X', hpost, hstep₁ _ fun acts => by rw [doInvoke_state]; exact hsteps⟩
theorem vx_callVW (X : Stand p l e R s m args below meth c T locs cells slots) (hexec : p.tables.exec = Jvm.exec) {own C : String} {index : Nat} {y : MethodName} {bytes : ByteArray} {maxL : Nat} {ret : Option FieldType} {hh : List (Nat × Nat × Nat × Nat)}
    (hown : s.vm.findClass own = some m.cls) (hlink : (Cond.methodLink own index y).before args s = true) (hinst : (Cond.instanceMethod y).before args s = true) (hsel : (Cond.selects C y y).before args s = true)
    (hcode : (Cond.codeWith y bytes maxL ret hh).before args s = true) (hy : y.cls ≠ "java/lang/invoke/MethodHandle" ∧ y.cls ≠ "java/lang/invoke/VarHandle")
    {W9 : Nat} {Pre : Pt → Array Value → Prop} {Post : Pt → Array Value → Option Value → Pt → Prop} (hK : Back l R p e below s args y 3 W9 Pre Post)
    {b : Addr} {cellB : Cell} (hcell : T.heap[b]? = some cellB) (hobj : cellB.vm.isStatics = false) (hcls : s.vm.findClass C = some cellB.cls)
    {g : JFrame} (hg : g.method = m) (hsize : g.locals.size = c.maxLocals) {argsL rest : List Value} (hlen : ∀ sig, parseMethodDescriptor y.desc = some sig → argsL.length = sig.parameters.length)
    (hstack : g.stack = argsL.reverse ++ .ref b :: rest) (hW : 2 * g.monitorRoom + (rest.map fun v => v.category).sum ≤ W9) (hdg : decode c.code g.pc = .ok (.invokevirtual index, 3))
    (hpre : ∀ vm₁, s.WarmedH vm₁ → Pre ⟨T.setVm vm₁, locs, cells, slots⟩ (Value.ref b :: argsL).toArray) :
    ∃ (v : Option Value) (vm₁ : Vm) (B : Pt), s.WarmedH vm₁ ∧ Stand p l e R s m args below meth c B.U B.locs B.cells B.slots ∧ Post ⟨T.setVm vm₁, locs, cells, slots⟩ (Value.ref b :: argsL).toArray v B ∧
      ∀ target, Steps p.tables e below (B.U.setTop { g with pc := g.pc + 3, stack := v.toList ++ rest }) target → Steps p.tables e below (T.setTop g) target := by
  obtain ⟨mk, methM, hnamed, hmethM, hstM, habM⟩ := Cond.instanceMethod_spec hinst
  obtain ⟨m8, methM', cM, hn8, hmethM', -, -, -, -, -, -, hsigM⟩ := Cond.codeWith_spec hcode
  cases Option.some.inj (hn8.symm.trans hnamed)
  cases hmethM.symm.trans hmethM'
  obtain ⟨c2, r2, m2, q1, q2, q3, q4, kP, hkP, hkPi⟩ := Cond.selects_spec hsel
  cases hcls.symm.trans q1
  cases (State.methodFound?_of_named hnamed hy).symm.trans q2
  cases hnamed.symm.trans q3
  have hselP : selectMethod e.platform s.vm cellB.cls mk = .method mk := by rw [Launch.admits_selectMethod X.admits]; exact q4
  obtain ⟨vm₁, X₁, hstep₁⟩ := X.invokevirtual hexec hown hlink hnamed hmethM hstM hkP hkPi hy (a := b) (cell := cellB) hcell
    (fun z h => by rw [h] at hobj; cases hobj) hselP hmethM habM hkP hkPi (g := g) hg (argsL := argsL) (rest := rest) (hlen _ hsigM) hstack hdg
  obtain ⟨v, B, X', hpost, hsteps⟩ := hK m meth c ⟨T.setVm vm₁, locs, cells, slots⟩ { g with stack := rest } (.invokevirtual index) mk (Value.ref b :: argsL).toArray X₁ hg hsize hdg hW (X₁.named hnamed) (hpre vm₁ X₁.warmed)
  exact ⟨v, vm₁, B, X₁.warmed, X', hpost, fun target h => hstep₁ _ fun acts => by rw [doInvoke_state]; exact hsteps.trans h⟩
abbrev vx_CVW (R : Room) (s : State) (args : Array Value) (own C : String) (index : Nat) (y : MethodName) (bytes : ByteArray) (maxL : Nat) (ret : Option FieldType) (hh : List (Nat × Nat × Nat × Nat)) (ws : List Cond) (rm : Room) (mc ms n : Nat) : Prop :=
  (rm.cells = mc ∧ rm.slots = ms ∧ rm.frames + 1 ≤ R.frames ∧ 8 + (maxL + 11) + rm.locals ≤ R.locals ∧ (∀ w ∈ ws, ∀ (a' : Array Value) (U : State), s.WarmedH U.vm → w.before a' U = true) ∧ Cond.codeWith y bytes maxL ret hh ∈ ws) ∧
  (Cond.codeWith y bytes maxL ret hh).before args s = true ∧ (Cond.initialized y.cls).before args s = true ∧ (y.cls ≠ "java/lang/invoke/MethodHandle" ∧ y.cls ≠ "java/lang/invoke/VarHandle") ∧
  (∀ sig, parseMethodDescriptor y.desc = some sig → n = sig.parameters.length) ∧ (Cond.methodLink own index y).before args s = true ∧ (Cond.instanceMethod y).before args s = true ∧ (Cond.selects C y y).before args s = true
theorem vx_cwVW {own C : String} {index maxL mc ms : Nat} {y : MethodName} {bytes : ByteArray} {ret : Option FieldType} {hh : List (Nat × Nat × Nat × Nat)} {Ts ws ws' : List Cond} {rm : Room} (n : Nat) (ht : ∀ w ∈ Ts, w.before args s = true) (hT : GoodIn Ts (wsV own index C y ws)) (hw : ws = Cond.codeWith y bytes maxL ret hh :: ws') (hrc : rm.cells = mc) (hrs : rm.slots = ms)
    (hd : y.cls = C ∧ y.cls ≠ "java/lang/invoke/MethodHandle" ∧ y.cls ≠ "java/lang/invoke/VarHandle" ∧ (parseMethodDescriptor y.desc).map (fun d => d.parameters.length) = some n) (hR : rm.frames + 1 ≤ R.frames ∧ 8 + (maxL + 11) + rm.locals ≤ R.locals) :
    vx_CVW R s args own C index y bytes maxL ret hh ws rm mc ms n := by
  obtain ⟨hC, hd⟩ := hd
  subst hC
  have ok : ∀ w ∈ wsV own index y.cls y ws, w.before args s = true := fun w h => ht w (hT w h).1
  have hG : GoodIn Ts ws := fun w h => hT w (by unfold wsV; exact List.mem_append_right _ h)
  have hc : Cond.codeWith y bytes maxL ret hh ∈ ws := by rw [hw]; exact List.mem_cons_self
  refine ⟨⟨hrc, hrs, hR.1, hR.2, pay_in ht hG, hc⟩, ht _ (hG _ hc).1, ok _ (by simp [wsV]), ⟨hd.1, hd.2.1⟩, fun sig h => ?_, ok _ (by simp [wsV]), ok _ (by simp [wsV]), ok _ (by simp [wsV])⟩
  have h2 := hd.2.2
  rw [h] at h2
  exact (Option.some.inj h2).symm
theorem vx_runVW {y : MethodName} {bytes cc : ByteArray} {maxL nL mc ms n index : Nat} {ret : Option FieldType} {hh : List (Nat × Nat × Nat × Nat)} {ws : List Cond} {rm : Room} {Pc : Array Value → State → Prop} {Qc : Array Value → State → Outcome → State → Prop} {free : Addr → Prop} {Ts : List Cond} {own C : String} {b : Addr} {As rest : List Value} {g : JFrame}
    (S : CallFix p m c cc nL s args Ts own) (hM : Met l y ws rm Pc Qc mc ms free) (cw : vx_CVW R s args own C index y bytes maxL ret hh ws rm mc ms n) (hp : PreV s H C b Pc As)
    (hg : g.method = m) (hn : As.length = n) (hsize : g.locals.size = nL) (hstack : g.stack = As.reverse ++ .ref b :: rest) (hW : 2 * g.monitorRoom + (rest.map fun v => v.category).sum ≤ 8) (hdg : decode cc g.pc = .ok (.invokevirtual index, 3)) (hf : cells + mc ≤ R.cells ∧ slots + ms ≤ R.slots) :
    va_Run p l e R s m args below meth c H locs cells slots mc ms g rest (Qc (Value.ref b :: As).toArray) free := by
  obtain ⟨⟨hrc, hrs, hfr, hlo, hws, hcw⟩, hcode, hini, hy, hlen, hl, hin, hse⟩ := cw
  have hK : Back l R p e below s args y 3 8 (PreOf R mc ms Pc) (PostOf Qc mc ms free) := va_backW (hh := hh) (bytes := bytes) (maxL := maxL) (ret := ret) hM hp.1 hrc hrs hfr hlo hws hcw (fun a' U hW => word_at hW (Or.inl (by first | rfl | simp [Cond.onTables, Cond.keeps, Cond.steady])) hini)
  obtain ⟨hx, hb, hml, ho, -⟩ := S
  obtain ⟨-, ⟨cellB, hcB, hoB, hclB⟩, hPc⟩ := hp
  intro T hT X
  obtain ⟨v, vm₁, ⟨U', l2, c2, s2⟩, hW₁, X', ⟨g', mk, t, L, e1, e2, hq, h1, hL, h2, h3⟩, st⟩ := vx_callVW X hx (C := C) (hh := hh) (bytes := bytes) (maxL := maxL) (ret := ret) ho hl hin hse hcode hy hK (by rw [hT]; exact hcB) hoB hclB hg (hsize.trans hml.symm) (argsL := As) (rest := rest) (fun sig h => hn.trans (hlen sig h)) hstack hW (by rw [hb]; exact hdg)
    (fun vm₁ hW₁ => ⟨hf.1, hf.2, hPc (T.setVm vm₁) hT hW₁⟩)
  dsimp only [Pt.U, Pt.locs, Pt.cells, Pt.slots] at X' e1 e2 h1 h2 h3 st
  subst h1; subst h2; subst h3
  exact ⟨v, (T.setVm vm₁).calling g' mk (Value.ref b :: As).toArray, t, U', L, hT, X', hL, e1, e2, hq, st⟩
section
variable {y : MethodName} {bytes cc : ByteArray} {maxL nL mc ms n index : Nat} {ret : Option FieldType} {ws : List Cond} {rm : Room} {Pc : Array Value → State → Prop} {Qc : Array Value → State → Outcome → State → Prop} {XC : String → State → State → Prop} {free : Addr → Prop} {Ts : List Cond} {own C : String} {b : Addr} {As rest : List Value} {g : JFrame}
theorem vx_runVX {hh : List (Nat × Nat × Nat × Nat)} (S : CallFix p m c cc nL s args Ts own) (hM : vx_Met l y ws rm Pc Qc XC mc ms free) (cw : vx_CVW R s args own C index y bytes maxL ret hh ws rm mc ms n) (hp : PreV s H C b Pc As)
    (hg : g.method = m) (hn : As.length = n) (hsize : g.locals.size = nL) (hstack : g.stack = As.reverse ++ .ref b :: rest) (hW : 2 * g.monitorRoom + (rest.map fun v => v.category).sum ≤ 8) (hdg : decode cc g.pc = .ok (.invokevirtual index, 3)) (hf : cells + mc ≤ R.cells ∧ slots + ms ≤ R.slots) :
    vx_Run p l e R s m args below meth c H locs cells slots mc ms g rest (Qc (Value.ref b :: As).toArray) XC free := by
  obtain ⟨⟨hrc, hrs, hfr, hlo, hws, hcw⟩, hcode, hini, hy, hlen, hl, hin, hse⟩ := cw
  have hK : vx_Back l R p e below s args y 3 8 (PreOf R mc ms Pc) (PostOf Qc mc ms free) (vx_Post XC mc ms free) := vx_backW (hh := hh) (bytes := bytes) (maxL := maxL) (ret := ret) hM hp.1 hrc hrs hfr hlo hws hcw (fun a' U hW => word_at hW (Or.inl (by first | rfl | simp [Cond.onTables, Cond.keeps, Cond.steady])) hini)
  obtain ⟨hx, hb, hml, ho, -⟩ := S
  obtain ⟨-, ⟨cellB, hcB, hoB, hclB⟩, hPc⟩ := hp
  intro T hT X
  rcases vx_callVX X hx (C := C) (hh := hh) (bytes := bytes) (maxL := maxL) (ret := ret) ho hl hin hse hcode hy hK (by rw [hT]; exact hcB) hoB hclB hg (hsize.trans hml.symm) (argsL := As) (rest := rest) (fun sig h => hn.trans (hlen sig h)) hstack hW (by rw [hb]; exact hdg)
    (fun vm₁ hW₁ => ⟨hf.1, hf.2, hPc (T.setVm vm₁) hT hW₁⟩) with ⟨v, vm₁, ⟨U', l2, c2, s2⟩, hW₁, X', ⟨g', mk, t, L, e1, e2, hq, h1, hL, h2, h3⟩, st⟩ | ⟨q, vm₁, ⟨U', l2, c2, s2⟩, hW₁, X', ⟨g', mk, t, L, E, ce, e1, e2, hq, hce, hcv, hcl, h1, hL, h2, h3⟩, st⟩
  · dsimp only [Pt.U, Pt.locs, Pt.cells, Pt.slots] at X' e1 e2 h1 h2 h3 st
    subst h1; subst h2; subst h3
    exact Or.inl ⟨v, (T.setVm vm₁).calling g' mk (Value.ref b :: As).toArray, t, U', L, hT, X', hL, e1, e2, hq, st⟩
  · dsimp only [Pt.U, Pt.locs, Pt.cells, Pt.slots] at X' e1 e2 h1 h2 h3 st hcl
    subst h1; subst h2; subst h3
    exact Or.inr ⟨q, (T.setVm vm₁).calling g' mk (Value.ref b :: As).toArray, t, U', L, E, ce, hT, X', hL, e1, e2, hq, hce, hcv, vx_cls hW₁ hcl, st⟩
theorem vx_runSX {hh : List (Nat × Nat × Nat × Nat)} (S : CallFix p m c cc nL s args Ts own) (hM : vx_Met l y ws rm Pc Qc XC mc ms free) (cw : vx_CSW R s args own index y bytes maxL ret hh ws rm mc ms n) (hp : PreS s H Pc As)
    (hg : g.method = m) (hn : As.length = n) (hsize : g.locals.size = nL) (hstack : g.stack = As.reverse ++ rest) (hW : 2 * g.monitorRoom + (rest.map fun v => v.category).sum ≤ 8) (hdg : decode cc g.pc = .ok (.invokestatic index, 3)) (hf : cells + mc ≤ R.cells ∧ slots + ms ≤ R.slots) :
    vx_Run p l e R s m args below meth c H locs cells slots mc ms g rest (Qc As.toArray) XC free := by
  obtain ⟨⟨hrc, hrs, hfr, hlo, hws, hcw⟩, hcode, hini, hy, hlen, hl, hstt⟩ := cw
  have hK : vx_Back l R p e below s args y 3 8 (PreOf R mc ms Pc) (PostOf Qc mc ms free) (vx_Post XC mc ms free) := vx_backW (hh := hh) (bytes := bytes) (maxL := maxL) (ret := ret) hM hp.1 hrc hrs hfr hlo hws hcw (fun a' U hW => word_at hW (Or.inl (by first | rfl | simp [Cond.onTables, Cond.keeps, Cond.steady])) hini)
  obtain ⟨hx, hb, hml, ho, -⟩ := S
  intro T hT X
  rcases vx_callSX X hx (hh := hh) (bytes := bytes) (maxL := maxL) (ret := ret) ho hl hstt hini hcode hy hK hg (hsize.trans hml.symm) (argsL := As) (rest := rest) (fun sig h => hn.trans (hlen sig h)) hstack hW (by rw [hb]; exact hdg)
    (fun vm₁ hW₁ => ⟨hf.1, hf.2, hp.2 (T.setVm vm₁) hT hW₁⟩) with ⟨v, vm₁, ⟨U', l2, c2, s2⟩, hW₁, X', ⟨g', mk, t, L, e1, e2, hq, h1, hL, h2, h3⟩, st⟩ | ⟨q, vm₁, ⟨U', l2, c2, s2⟩, hW₁, X', ⟨g', mk, t, L, E, ce, e1, e2, hq, hce, hcv, hcl, h1, hL, h2, h3⟩, st⟩
  · dsimp only [Pt.U, Pt.locs, Pt.cells, Pt.slots] at X' e1 e2 h1 h2 h3 st
    subst h1; subst h2; subst h3
    exact Or.inl ⟨v, (T.setVm vm₁).calling g' mk As.toArray, t, U', L, hT, X', hL, e1, e2, hq, st⟩
  · dsimp only [Pt.U, Pt.locs, Pt.cells, Pt.slots] at X' e1 e2 h1 h2 h3 st hcl
    subst h1; subst h2; subst h3
    exact Or.inr ⟨q, (T.setVm vm₁).calling g' mk As.toArray, t, U', L, E, ce, hT, X', hL, e1, e2, hq, hce, hcv, vx_cls hW₁ hcl, st⟩
end
end VXH
theorem vx_ofWH {l : Launch} {y : MethodName} {ws ws' : List Cond} {rm : Room} {Pc : Array Value → State → Prop} {Qc : Array Value → State → Outcome → State → Prop} {XC : String → State → State → Prop} {mc ms : Nat} {free : Addr → Prop} {cc : ByteArray} {maxL : Nat} {ret : Option FieldType} {hh : List (Nat × Nat × Nat × Nat)}
    (hy : plainName y.cls = true) (hw : ws = Cond.codeWith y cc maxL ret hh :: ws')
    (body : ∀ p e s m args below meth c s₁, BodyLoose p l y (headSpec ws rm) cc maxL ret e s m args below meth c s₁ → c.maxLocals = maxL → Pc args s →
      W p l e (headSpec ws rm).room s m args below meth c s.heap [] 0 0 (vx_MQ below Qc XC args s mc ms free) (entryFrame m args maxL)) : vx_Met l y ws rm Pc Qc XC mc ms free := by
  refine MetFree.of_bodyS (code := cc) (maxLocals := maxL) (ret := ret) hy ?_ ?_
  · intro args s m h hn
    obtain ⟨m9, meth, c, hn9, h1, h2, h3, h4, -, h5, h6, -⟩ := Cond.codeWith_spec (atoms_spec (ws := ws) h _ (by rw [hw]; exact List.mem_cons_self))
    cases hn.symm.trans hn9
    exact ⟨meth, c, h1, h2, h3, h4, h5, h6⟩
  · intro p e s m args below meth c s₁ B hml hP _
    have hh0 : s₁.heap = s.heap := by rw [B.state]; rfl
    obtain ⟨t, a1, o, b1, b2, b3⟩ := body p e s m args below meth c s₁ B hml hP s₁ hh0 (Stand.of_body B)
    exact ⟨t, o, a1, b1, b2, b3⟩
/-! ===== END ===== -/

/-! ===== BEGIN printed: names, fields, word lists, decode rows ===== -/
def RX0 : String := "Forwardroll$Amounts"
def TX0 : u_T := fun k => match k with
  | _ => ("Forwardroll$Amounts", "byMoney", "[J", true)
def tyX0 : Nat → FieldType := fun k => match k with
  | _ => .array .long
abbrev wsX00 : List Cond := u_ws RX0 TX0 1
theorem nmX0 : ∀ a, a < 1 → ∀ b, b < 1 → a ≠ b → (TX0 a).2.1 ≠ (TX0 b).2.1 := by decide +kernel
theorem tyX0_ok : ∀ k, k < 1 → parseFieldDescriptor (TX0 k).2.2.1 = some (tyX0 k) := by decide +kernel
abbrev cX0_init : ByteArray := prog_2_method_1_code
def yX0_init : MethodName := ⟨RX0, "<init>", "()V"⟩
abbrev cX0_add : ByteArray := prog_2_method_2_code
def yX0_add : MethodName := ⟨RX0, "add", "(IJ)V"⟩
abbrev cX0_addAll : ByteArray := prog_2_method_3_code
def yX0_addAll : MethodName := ⟨RX0, "addAll", "(LForwardroll$Amounts;)V"⟩
abbrev cX0_amountOf : ByteArray := prog_2_method_4_code
def yX0_amountOf : MethodName := ⟨RX0, "amountOf", "(I)J"⟩
def RX1 : String := "Forwardroll$Calendar"
def TX1 : u_T := fun k => match k with
  | 0 => ("Forwardroll$Calendar", "holidays", "[Z", true)
  | _ => ("Forwardroll$Calendar", "today", "I", false)
def tyX1 : Nat → FieldType := fun k => match k with
  | 0 => .array .boolean
  | _ => .int
abbrev wsX10 : List Cond := u_ws RX1 TX1 2
theorem nmX1 : ∀ a, a < 2 → ∀ b, b < 2 → a ≠ b → (TX1 a).2.1 ≠ (TX1 b).2.1 := by decide +kernel
theorem tyX1_ok : ∀ k, k < 2 → parseFieldDescriptor (TX1 k).2.2.1 = some (tyX1 k) := by decide +kernel
abbrev cX1_init : ByteArray := prog_3_method_1_code
def yX1_init : MethodName := ⟨RX1, "<init>", "()V"⟩
abbrev cX1_flipHoliday : ByteArray := prog_3_method_2_code
def yX1_flipHoliday : MethodName := ⟨RX1, "flipHoliday", "(I)Z"⟩
abbrev cX1_isBusinessDay : ByteArray := prog_3_method_3_code
def yX1_isBusinessDay : MethodName := ⟨RX1, "isBusinessDay", "(I)Z"⟩
abbrev cX1_nextBusinessDay : ByteArray := prog_3_method_4_code
def yX1_nextBusinessDay : MethodName := ⟨RX1, "nextBusinessDay", "()I"⟩
def RX2 : String := "Forwardroll$Currency"
def TX2 : u_T := fun k => match k with
  | 0 => ("Forwardroll$Currency", "number", "I", true)
  | 1 => ("Forwardroll$Currency", "spotRate", "I", false)
  | _ => ("Forwardroll$Currency", "points", "I", false)
def tyX2 : Nat → FieldType := fun k => match k with
  | 0 => .int
  | 1 => .int
  | _ => .int
abbrev wsX20 : List Cond := u_ws RX2 TX2 3
theorem nmX2 : ∀ a, a < 3 → ∀ b, b < 3 → a ≠ b → (TX2 a).2.1 ≠ (TX2 b).2.1 := by decide +kernel
theorem tyX2_ok : ∀ k, k < 3 → parseFieldDescriptor (TX2 k).2.2.1 = some (tyX2 k) := by decide +kernel
abbrev cX2_init : ByteArray := prog_4_method_1_code
def yX2_init : MethodName := ⟨RX2, "<init>", "(I)V"⟩
abbrev cX2_forwardRate : ByteArray := prog_4_method_2_code
def yX2_forwardRate : MethodName := ⟨RX2, "forwardRate", "(I)I"⟩
abbrev cX2_laterRate : ByteArray := prog_4_method_3_code
def yX2_laterRate : MethodName := ⟨RX2, "laterRate", "(II)I"⟩
def RX3 : String := "Forwardroll$Customer"
def TX3 : u_T := fun k => match k with
  | 0 => ("Forwardroll$Customer", "limit", "I", false)
  | 1 => ("Forwardroll$Customer", "netAmounts", "[LForwardroll$Amounts;", true)
  | _ => ("Forwardroll$Customer", "balances", "LForwardroll$Amounts;", true)
def tyX3 : Nat → FieldType := fun k => match k with
  | 0 => .int
  | 1 => .array (.object "Forwardroll$Amounts")
  | _ => .object "Forwardroll$Amounts"
abbrev wsX30 : List Cond := u_ws RX3 TX3 3
theorem nmX3 : ∀ a, a < 3 → ∀ b, b < 3 → a ≠ b → (TX3 a).2.1 ≠ (TX3 b).2.1 := by decide +kernel
theorem tyX3_ok : ∀ k, k < 3 → parseFieldDescriptor (TX3 k).2.2.1 = some (tyX3 k) := by decide +kernel
abbrev cX3_init : ByteArray := prog_5_method_1_code
def yX3_init : MethodName := ⟨RX3, "<init>", "()V"⟩
abbrev cX3_book : ByteArray := prog_5_method_2_code
def yX3_book : MethodName := ⟨RX3, "book", "(IIJ)V"⟩
abbrev cX3_netAmountsOf : ByteArray := prog_5_method_3_code
def yX3_netAmountsOf : MethodName := ⟨RX3, "netAmountsOf", "(I)LForwardroll$Amounts;"⟩
abbrev cX3_netAmount : ByteArray := prog_5_method_4_code
def yX3_netAmount : MethodName := ⟨RX3, "netAmount", "(II)J"⟩
abbrev cX3_settle : ByteArray := prog_5_method_5_code
def yX3_settle : MethodName := ⟨RX3, "settle", "(I)V"⟩
def RX4 : String := "Forwardroll$Deal"
def TX4 : u_T := fun k => match k with
  | 0 => ("Forwardroll$Deal", "customer", "LForwardroll$Customer;", true)
  | 1 => ("Forwardroll$Deal", "currency", "LForwardroll$Currency;", true)
  | 2 => ("Forwardroll$Deal", "buys", "Z", true)
  | 3 => ("Forwardroll$Deal", "amountLeft", "I", false)
  | 4 => ("Forwardroll$Deal", "agreedRate", "I", false)
  | 5 => ("Forwardroll$Deal", "firstDay", "I", false)
  | _ => ("Forwardroll$Deal", "lastDay", "I", false)
def tyX4 : Nat → FieldType := fun k => match k with
  | 0 => .object "Forwardroll$Customer"
  | 1 => .object "Forwardroll$Currency"
  | 2 => .boolean
  | 3 => .int
  | 4 => .int
  | 5 => .int
  | _ => .int
abbrev wsX40 : List Cond := u_ws RX4 TX4 7
theorem nmX4 : ∀ a, a < 7 → ∀ b, b < 7 → a ≠ b → (TX4 a).2.1 ≠ (TX4 b).2.1 := by decide +kernel
theorem tyX4_ok : ∀ k, k < 7 → parseFieldDescriptor (TX4 k).2.2.1 = some (tyX4 k) := by decide +kernel
abbrev cX4_init : ByteArray := prog_6_method_1_code
def yX4_init : MethodName := ⟨RX4, "<init>", "(LForwardroll$Customer;LForwardroll$Currency;ZIIII)V"⟩
abbrev cX4_marketRate : ByteArray := prog_6_method_2_code
def yX4_marketRate : MethodName := ⟨RX4, "marketRate", "(I)I"⟩
abbrev cX4_marketGain : ByteArray := prog_6_method_3_code
def yX4_marketGain : MethodName := ⟨RX4, "marketGain", "(I)J"⟩
abbrev cX4_shiftedLoss : ByteArray := prog_6_method_4_code
def yX4_shiftedLoss : MethodName := ⟨RX4, "shiftedLoss", "(II)J"⟩
abbrev cX4_drawingRate : ByteArray := prog_6_method_5_code
def yX4_drawingRate : MethodName := ⟨RX4, "drawingRate", "(I)I"⟩
abbrev cX4_moveWindow : ByteArray := prog_6_method_6_code
def yX4_moveWindow : MethodName := ⟨RX4, "moveWindow", "(I)V"⟩
abbrev cX4_gainAt : ByteArray := prog_6_method_7_code
def yX4_gainAt : MethodName := ⟨RX4, "gainAt", "(I)J"⟩
def RX5 : String := "Forwardroll"
def TX5 : u_T := fun k => match k with
  | 0 => ("Forwardroll", "calendar", "LForwardroll$Calendar;", true)
  | 1 => ("Forwardroll", "currencies", "[LForwardroll$Currency;", true)
  | 2 => ("Forwardroll", "customers", "[LForwardroll$Customer;", true)
  | 3 => ("Forwardroll", "deals", "[LForwardroll$Deal;", true)
  | _ => ("Forwardroll", "dealCount", "I", false)
def tyX5 : Nat → FieldType := fun k => match k with
  | 0 => .object "Forwardroll$Calendar"
  | 1 => .array (.object "Forwardroll$Currency")
  | 2 => .array (.object "Forwardroll$Customer")
  | 3 => .array (.object "Forwardroll$Deal")
  | _ => .int
abbrev wsX50 : List Cond := u_ws RX5 TX5 5
theorem nmX5 : ∀ a, a < 5 → ∀ b, b < 5 → a ≠ b → (TX5 a).2.1 ≠ (TX5 b).2.1 := by decide +kernel
theorem tyX5_ok : ∀ k, k < 5 → parseFieldDescriptor (TX5 k).2.2.1 = some (tyX5 k) := by decide +kernel
abbrev cX5_init : ByteArray := prog_1_method_1_code
def yX5_init : MethodName := ⟨RX5, "<init>", "()V"⟩
abbrev cX5_setRate : ByteArray := prog_1_method_2_code
def yX5_setRate : MethodName := ⟨RX5, "setRate", "(II)I"⟩
abbrev cX5_setPoints : ByteArray := prog_1_method_3_code
def yX5_setPoints : MethodName := ⟨RX5, "setPoints", "(II)I"⟩
abbrev cX5_toggleHoliday : ByteArray := prog_1_method_4_code
def yX5_toggleHoliday : MethodName := ⟨RX5, "toggleHoliday", "(I)Z"⟩
abbrev cX5_setLimit : ByteArray := prog_1_method_5_code
def yX5_setLimit : MethodName := ⟨RX5, "setLimit", "(II)I"⟩
abbrev cX5_forward : ByteArray := prog_1_method_6_code
def yX5_forward : MethodName := ⟨RX5, "forward", "(II)I"⟩
abbrev cX5_deal : ByteArray := prog_1_method_7_code
def yX5_deal : MethodName := ⟨RX5, "deal", "(IIZIII)I"⟩
abbrev cX5_draw : ByteArray := prog_1_method_8_code
def yX5_draw : MethodName := ⟨RX5, "draw", "(II)I"⟩
abbrev cX5_roll : ByteArray := prog_1_method_9_code
def yX5_roll : MethodName := ⟨RX5, "roll", "(IIZ)I"⟩
abbrev cX5_closeOut : ByteArray := prog_1_method_10_code
def yX5_closeOut : MethodName := ⟨RX5, "closeOut", "(I)J"⟩
abbrev cX5_left : ByteArray := prog_1_method_11_code
def yX5_left : MethodName := ⟨RX5, "left", "(I)I"⟩
abbrev cX5_rate : ByteArray := prog_1_method_12_code
def yX5_rate : MethodName := ⟨RX5, "rate", "(I)I"⟩
abbrev cX5_window : ByteArray := prog_1_method_13_code
def yX5_window : MethodName := ⟨RX5, "window", "(I)I"⟩
abbrev cX5_gain : ByteArray := prog_1_method_14_code
def yX5_gain : MethodName := ⟨RX5, "gain", "(I)J"⟩
abbrev cX5_exposure : ByteArray := prog_1_method_15_code
def yX5_exposure : MethodName := ⟨RX5, "exposure", "(I)J"⟩
abbrev cX5_settlementDay : ByteArray := prog_1_method_16_code
def yX5_settlementDay : MethodName := ⟨RX5, "settlementDay", "()I"⟩
abbrev cX5_due : ByteArray := prog_1_method_17_code
def yX5_due : MethodName := ⟨RX5, "due", "(III)J"⟩
abbrev cX5_balance : ByteArray := prog_1_method_18_code
def yX5_balance : MethodName := ⟨RX5, "balance", "(II)J"⟩
abbrev cX5_pass : ByteArray := prog_1_method_19_code
def yX5_pass : MethodName := ⟨RX5, "pass", "(I)I"⟩
abbrev cX5_today : ByteArray := prog_1_method_20_code
def yX5_today : MethodName := ⟨RX5, "today", "()I"⟩
abbrev cX5_currencyNumbered : ByteArray := prog_1_method_21_code
def yX5_currencyNumbered : MethodName := ⟨RX5, "currencyNumbered", "(I)LForwardroll$Currency;"⟩
abbrev cX5_customerNumbered : ByteArray := prog_1_method_22_code
def yX5_customerNumbered : MethodName := ⟨RX5, "customerNumbered", "(I)LForwardroll$Customer;"⟩
abbrev cX5_dealNumbered : ByteArray := prog_1_method_23_code
def yX5_dealNumbered : MethodName := ⟨RX5, "dealNumbered", "(I)LForwardroll$Deal;"⟩
abbrev cX5_requireRange : ByteArray := prog_1_method_24_code
def yX5_requireRange : MethodName := ⟨RX5, "requireRange", "(III)V"⟩
abbrev cX5_requireLeft : ByteArray := prog_1_method_25_code
def yX5_requireLeft : MethodName := ⟨RX5, "requireLeft", "(LForwardroll$Deal;)V"⟩
abbrev cX5_isIndex : ByteArray := prog_1_method_26_code
def yX5_isIndex : MethodName := ⟨RX5, "isIndex", "(II)Z"⟩
abbrev cX5_endDealsOfToday : ByteArray := prog_1_method_27_code
def yX5_endDealsOfToday : MethodName := ⟨RX5, "endDealsOfToday", "()I"⟩
abbrev cX5_bookGain : ByteArray := prog_1_method_28_code
def yX5_bookGain : MethodName := ⟨RX5, "bookGain", "(LForwardroll$Deal;)J"⟩
abbrev cX5_settleAll : ByteArray := prog_1_method_29_code
def yX5_settleAll : MethodName := ⟨RX5, "settleAll", "(I)V"⟩
abbrev cX5_exposureWith : ByteArray := prog_1_method_30_code
def yX5_exposureWith : MethodName := ⟨RX5, "exposureWith", "(LForwardroll$Customer;LForwardroll$Deal;)J"⟩
abbrev cX5_lossOfAll : ByteArray := prog_1_method_31_code
def yX5_lossOfAll : MethodName := ⟨RX5, "lossOfAll", "(LForwardroll$Customer;I)J"⟩
abbrev cX5_worseLoss : ByteArray := prog_1_method_32_code
def yX5_worseLoss : MethodName := ⟨RX5, "worseLoss", "(JJ)J"⟩
abbrev cX5_homeAmount : ByteArray := prog_1_method_33_code
def yX5_homeAmount : MethodName := ⟨RX5, "homeAmount", "(II)J"⟩
def RX6 : String := "ForwardrollModel"
def TX6 : u_T := fun k => match k with
  | _ => ("", "", "", false)
def tyX6 : Nat → FieldType := fun k => match k with
  | _ => .int
abbrev wsX60 : List Cond := u_ws RX6 TX6 0
theorem nmX6 : ∀ a, a < 0 → ∀ b, b < 0 → a ≠ b → (TX6 a).2.1 ≠ (TX6 b).2.1 := by decide +kernel
theorem tyX6_ok : ∀ k, k < 0 → parseFieldDescriptor (TX6 k).2.2.1 = some (tyX6 k) := by decide +kernel
def RJ9 : String := "java/lang/Math"
def TJ9 : u_T := fun k => match k with
  | _ => ("", "", "", false)
def tyJ9 : Nat → FieldType := fun k => match k with
  | _ => .int
abbrev wsJ90 : List Cond := u_ws RJ9 TJ9 0
theorem nmJ9 : ∀ a, a < 0 → ∀ b, b < 0 → a ≠ b → (TJ9 a).2.1 ≠ (TJ9 b).2.1 := by decide +kernel
theorem tyJ9_ok : ∀ k, k < 0 → parseFieldDescriptor (TJ9 k).2.2.1 = some (tyJ9 k) := by decide +kernel
abbrev cJ9_max_7cf53 : ByteArray := prog_13_method_65_code
def yJ9_max_7cf53 : MethodName := ⟨RJ9, "max", "(II)I"⟩
abbrev cJ9_max_f86c9 : ByteArray := prog_13_method_66_code
def yJ9_max_f86c9 : MethodName := ⟨RJ9, "max", "(JJ)J"⟩
def RJ0 : String := "java/lang/String"
def TJ0 : u_T := fun k => match k with
  | _ => ("", "", "", false)
def tyJ0 : Nat → FieldType := fun k => match k with
  | _ => .int
abbrev wsJ00 : List Cond := u_ws RJ0 TJ0 0
theorem nmJ0 : ∀ a, a < 0 → ∀ b, b < 0 → a ≠ b → (TJ0 a).2.1 ≠ (TJ0 b).2.1 := by decide +kernel
theorem tyJ0_ok : ∀ k, k < 0 → parseFieldDescriptor (TJ0 k).2.2.1 = some (tyJ0 k) := by decide +kernel
def RL : String := "ForwardrollLaw"
abbrev cL_cell : ByteArray := method_2_code
def yL_cell : MethodName := ⟨RL, "cell", "([II)I"⟩
abbrev cL_low : ByteArray := method_3_code
def yL_low : MethodName := ⟨RL, "low", "(II)I"⟩
abbrev cL_setRate : ByteArray := method_4_code
def yL_setRate : MethodName := ⟨RL, "setRate", "(LForwardroll;II)I"⟩
abbrev cL_setPoints : ByteArray := method_5_code
def yL_setPoints : MethodName := ⟨RL, "setPoints", "(LForwardroll;II)I"⟩
abbrev cL_toggleHoliday : ByteArray := method_6_code
def yL_toggleHoliday : MethodName := ⟨RL, "toggleHoliday", "(LForwardroll;I)I"⟩
abbrev cL_setLimit : ByteArray := method_7_code
def yL_setLimit : MethodName := ⟨RL, "setLimit", "(LForwardroll;II)I"⟩
abbrev cL_forward : ByteArray := method_8_code
def yL_forward : MethodName := ⟨RL, "forward", "(LForwardroll;II)I"⟩
abbrev cL_deal : ByteArray := method_9_code
def yL_deal : MethodName := ⟨RL, "deal", "(LForwardroll;IIZIII)I"⟩
abbrev cL_draw : ByteArray := method_10_code
def yL_draw : MethodName := ⟨RL, "draw", "(LForwardroll;II)I"⟩
abbrev cL_roll : ByteArray := method_11_code
def yL_roll : MethodName := ⟨RL, "roll", "(LForwardroll;IIZ)I"⟩
abbrev cL_closeOut : ByteArray := method_12_code
def yL_closeOut : MethodName := ⟨RL, "closeOut", "(LForwardroll;I)J"⟩
abbrev cL_left : ByteArray := method_13_code
def yL_left : MethodName := ⟨RL, "left", "(LForwardroll;I)I"⟩
abbrev cL_exposure : ByteArray := method_14_code
def yL_exposure : MethodName := ⟨RL, "exposure", "(LForwardroll;I)J"⟩
abbrev cL_due : ByteArray := method_15_code
def yL_due : MethodName := ⟨RL, "due", "(LForwardroll;III)J"⟩
abbrev cL_balance : ByteArray := method_16_code
def yL_balance : MethodName := ⟨RL, "balance", "(LForwardroll;II)J"⟩
abbrev cL_pass : ByteArray := method_17_code
def yL_pass : MethodName := ⟨RL, "pass", "(LForwardroll;I)I"⟩
abbrev cL_forwards : ByteArray := method_18_code
def yL_forwards : MethodName := ⟨RL, "forwards", "([III)I"⟩
abbrev cL_worth : ByteArray := method_19_code
def yL_worth : MethodName := ⟨RL, "worth", "(JI)J"⟩
abbrev cL_gains : ByteArray := method_20_code
def yL_gains : MethodName := ⟨RL, "gains", "([I[I[III)J"⟩
abbrev cL_now : ByteArray := method_21_code
def yL_now : MethodName := ⟨RL, "now", "([I[I[I[II)I"⟩
abbrev cL_exposes : ByteArray := method_22_code
def yL_exposes : MethodName := ⟨RL, "exposes", "([I[I[I[I[I[II)J"⟩
abbrev cL_settles : ByteArray := method_23_code
def yL_settles : MethodName := ⟨RL, "settles", "([I)I"⟩
abbrev cL_owe : ByteArray := method_24_code
def yL_owe : MethodName := ⟨RL, "owe", "([J[IIIJ)V"⟩
abbrev cL_markets : ByteArray := method_25_code
def yL_markets : MethodName := ⟨RL, "markets", "(LForwardroll;III[I[I)Z"⟩
abbrev cL_deals : ByteArray := method_26_code
def yL_deals : MethodName := ⟨RL, "deals", "(LForwardroll;III[I[I[I[I[I[I[J[I)Z"⟩
abbrev cL_passes : ByteArray := method_27_code
def yL_passes : MethodName := ⟨RL, "passes", "(LForwardroll;I[I[I[I[I[I[J[J[I)Z"⟩
abbrev cL_isTold : ByteArray := method_28_code
def yL_isTold : MethodName := ⟨RL, "isTold", "(LForwardroll;I[I[I[I[I[I[I[J[J[I)Z"⟩
abbrev cL_law : ByteArray := code
def yL_law : MethodName := ⟨RL, "law", "([I)Z"⟩
def wsX0_init : List Cond := .code yX0_init cX0_init 1 none :: ([.methodLink RX0 3 objectInit, .instanceMethod objectInit, .code objectInit ⟨#[0xb1]⟩ 1 none, .arrayClass .long, .fieldLink RX0 9 "Forwardroll$Amounts" "byMoney" "[J"] ++ wsX00)
def wsX5_isIndex : List Cond := .code yX5_isIndex cX5_isIndex 2 (some .boolean) :: ([])
def wsX0_add : List Cond := .code yX0_add cX0_add 4 none :: ([.fieldLink RX0 9 "Forwardroll$Amounts" "byMoney" "[J", .static yX5_isIndex, .initialized RX5, .code yX5_isIndex cX5_isIndex 2 (some .boolean)] ++ wsX00)
def wsX0_amountOf : List Cond := .code yX0_amountOf cX0_amountOf 2 (some .long) :: ([.fieldLink RX0 9 "Forwardroll$Amounts" "byMoney" "[J", .static yX5_isIndex, .initialized RX5, .code yX5_isIndex cX5_isIndex 2 (some .boolean)] ++ wsX00)
def wsX0_addAll : List Cond := .code yX0_addAll cX0_addAll 3 none :: ([.methodLink RX0 19 yX0_amountOf, .instanceMethod yX0_amountOf, .selects RX0 yX0_amountOf yX0_amountOf, .initialized RX0, .code yX0_amountOf cX0_amountOf 2 (some .long), .fieldLink RX0 9 "Forwardroll$Amounts" "byMoney" "[J", .static yX5_isIndex, .initialized RX5, .code yX5_isIndex cX5_isIndex 2 (some .boolean), .methodLink RX0 23 yX0_add, .instanceMethod yX0_add, .selects RX0 yX0_add yX0_add, .code yX0_add cX0_add 4 none] ++ wsX00)
def wsX1_init : List Cond := .code yX1_init cX1_init 1 none :: ([.methodLink RX1 3 objectInit, .instanceMethod objectInit, .code objectInit ⟨#[0xb1]⟩ 1 none, .arrayClass .boolean, .fieldLink RX1 9 "Forwardroll$Calendar" "holidays" "[Z"] ++ wsX10)
def wsX1_flipHoliday : List Cond := .code yX1_flipHoliday cX1_flipHoliday 2 (some .boolean) :: ([.fieldLink RX1 9 "Forwardroll$Calendar" "holidays" "[Z", .static yX5_isIndex, .initialized RX5, .code yX5_isIndex cX5_isIndex 2 (some .boolean)] ++ wsX10)
def wsX1_isBusinessDay : List Cond := .code yX1_isBusinessDay cX1_isBusinessDay 3 (some .boolean) :: ([.fieldLink RX1 9 "Forwardroll$Calendar" "holidays" "[Z", .static yX5_isIndex, .initialized RX5, .code yX5_isIndex cX5_isIndex 2 (some .boolean)] ++ wsX10)
def wsX1_nextBusinessDay : List Cond := .code yX1_nextBusinessDay cX1_nextBusinessDay 2 (some .int) :: ([.fieldLink RX1 19 "Forwardroll$Calendar" "today" "I", .methodLink RX1 23 yX1_isBusinessDay, .instanceMethod yX1_isBusinessDay, .selects RX1 yX1_isBusinessDay yX1_isBusinessDay, .initialized RX1, .code yX1_isBusinessDay cX1_isBusinessDay 3 (some .boolean), .fieldLink RX1 9 "Forwardroll$Calendar" "holidays" "[Z", .static yX5_isIndex, .initialized RX5, .code yX5_isIndex cX5_isIndex 2 (some .boolean)] ++ wsX10)
def wsX2_init : List Cond := .code yX2_init cX2_init 2 none :: ([.methodLink RX2 3 objectInit, .instanceMethod objectInit, .code objectInit ⟨#[0xb1]⟩ 1 none, .fieldLink RX2 9 "Forwardroll$Currency" "spotRate" "I", .fieldLink RX2 15 "Forwardroll$Currency" "number" "I"] ++ wsX20)
def wsX2_laterRate : List Cond := .code yX2_laterRate cX2_laterRate 3 (some .int) :: ([.fieldLink RX2 22 "Forwardroll$Currency" "points" "I", .methodLink RX2 25 Lib.Math.max.name, .static Lib.Math.max.name, .initialized "java/lang/Math", .code Lib.Math.max.name Lib.Math.max.code 2 (some .int)] ++ wsX20)
def wsX2_forwardRate : List Cond := .code yX2_forwardRate cX2_forwardRate 2 (some .int) :: ([.fieldLink RX2 9 "Forwardroll$Currency" "spotRate" "I", .methodLink RX2 18 yX2_laterRate, .instanceMethod yX2_laterRate, .selects RX2 yX2_laterRate yX2_laterRate, .initialized RX2, .code yX2_laterRate cX2_laterRate 3 (some .int), .fieldLink RX2 22 "Forwardroll$Currency" "points" "I", .methodLink RX2 25 Lib.Math.max.name, .static Lib.Math.max.name, .initialized "java/lang/Math", .code Lib.Math.max.name Lib.Math.max.code 2 (some .int)] ++ wsX20)
def wsX3_init : List Cond := .code yX3_init cX3_init 1 none :: ([.methodLink RX3 3 objectInit, .instanceMethod objectInit, .code objectInit ⟨#[0xb1]⟩ 1 none, .constant RX3 9 (1000000), .fieldLink RX3 10 "Forwardroll$Customer" "limit" "I", .classLink RX3 16 RX0, .fieldLink RX3 18 "Forwardroll$Customer" "netAmounts" "[LForwardroll$Amounts;", .instantiable RX0 1, .initialized RX0, .fieldLink RX3 23 "Forwardroll$Customer" "balances" "LForwardroll$Amounts;", .instanceMethod yX0_init, .code yX0_init cX0_init 1 none, .methodLink RX0 3 objectInit, .arrayClass .long, .fieldLink RX0 9 "Forwardroll$Amounts" "byMoney" "[J"] ++ wsX30 ++ wsX00)
def wsX3_book : List Cond := .code yX3_book cX3_book 6 none :: ([.fieldLink RX3 18 "Forwardroll$Customer" "netAmounts" "[LForwardroll$Amounts;", .classLink RX3 16 RX0, .instantiable RX0 1, .initialized RX0, .static yX5_isIndex, .initialized RX5, .code yX5_isIndex cX5_isIndex 2 (some .boolean), .instanceMethod yX0_init, .code yX0_init cX0_init 1 none, .methodLink RX0 3 objectInit, .instanceMethod objectInit, .code objectInit ⟨#[0xb1]⟩ 1 none, .arrayClass .long, .fieldLink RX0 9 "Forwardroll$Amounts" "byMoney" "[J", .methodLink RX3 31 yX0_add, .instanceMethod yX0_add, .selects RX0 yX0_add yX0_add, .code yX0_add cX0_add 4 none] ++ wsX30 ++ wsX00)
def wsX3_netAmountsOf : List Cond := .code yX3_netAmountsOf cX3_netAmountsOf 2 (some (.object "Forwardroll$Amounts")) :: ([.fieldLink RX3 18 "Forwardroll$Customer" "netAmounts" "[LForwardroll$Amounts;", .static yX5_isIndex, .initialized RX5, .code yX5_isIndex cX5_isIndex 2 (some .boolean)] ++ wsX30)
def wsX3_netAmount : List Cond := .code yX3_netAmount cX3_netAmount 4 (some .long) :: ([.methodLink RX3 35 yX3_netAmountsOf, .instanceMethod yX3_netAmountsOf, .selects RX3 yX3_netAmountsOf yX3_netAmountsOf, .initialized RX3, .code yX3_netAmountsOf cX3_netAmountsOf 2 (some (.object "Forwardroll$Amounts")), .fieldLink RX3 18 "Forwardroll$Customer" "netAmounts" "[LForwardroll$Amounts;", .static yX5_isIndex, .initialized RX5, .code yX5_isIndex cX5_isIndex 2 (some .boolean), .methodLink RX3 39 yX0_amountOf, .instanceMethod yX0_amountOf, .selects RX0 yX0_amountOf yX0_amountOf, .initialized RX0, .code yX0_amountOf cX0_amountOf 2 (some .long), .fieldLink RX0 9 "Forwardroll$Amounts" "byMoney" "[J"] ++ wsX30 ++ wsX00)
def wsX3_settle : List Cond := .code yX3_settle cX3_settle 3 none :: ([.fieldLink RX3 23 "Forwardroll$Customer" "balances" "LForwardroll$Amounts;", .methodLink RX3 35 yX3_netAmountsOf, .instanceMethod yX3_netAmountsOf, .selects RX3 yX3_netAmountsOf yX3_netAmountsOf, .initialized RX3, .code yX3_netAmountsOf cX3_netAmountsOf 2 (some (.object "Forwardroll$Amounts")), .fieldLink RX3 18 "Forwardroll$Customer" "netAmounts" "[LForwardroll$Amounts;", .static yX5_isIndex, .initialized RX5, .code yX5_isIndex cX5_isIndex 2 (some .boolean), .methodLink RX3 43 yX0_addAll, .instanceMethod yX0_addAll, .selects RX0 yX0_addAll yX0_addAll, .initialized RX0, .code yX0_addAll cX0_addAll 3 none, .methodLink RX0 19 yX0_amountOf, .instanceMethod yX0_amountOf, .selects RX0 yX0_amountOf yX0_amountOf, .code yX0_amountOf cX0_amountOf 2 (some .long), .fieldLink RX0 9 "Forwardroll$Amounts" "byMoney" "[J", .methodLink RX0 23 yX0_add, .instanceMethod yX0_add, .selects RX0 yX0_add yX0_add, .code yX0_add cX0_add 4 none] ++ wsX30 ++ wsX00)
def wsX4_init : List Cond := .code yX4_init cX4_init 8 none :: ([.methodLink RX4 3 objectInit, .instanceMethod objectInit, .code objectInit ⟨#[0xb1]⟩ 1 none, .fieldLink RX4 9 "Forwardroll$Deal" "customer" "LForwardroll$Customer;", .fieldLink RX4 15 "Forwardroll$Deal" "currency" "LForwardroll$Currency;", .fieldLink RX4 19 "Forwardroll$Deal" "buys" "Z", .fieldLink RX4 23 "Forwardroll$Deal" "amountLeft" "I", .fieldLink RX4 27 "Forwardroll$Deal" "agreedRate" "I", .fieldLink RX4 30 "Forwardroll$Deal" "firstDay" "I", .fieldLink RX4 33 "Forwardroll$Deal" "lastDay" "I"] ++ wsX40)
def wsX4_marketRate : List Cond := .code yX4_marketRate cX4_marketRate 2 (some .int) :: ([.fieldLink RX4 15 "Forwardroll$Deal" "currency" "LForwardroll$Currency;", .fieldLink RX4 33 "Forwardroll$Deal" "lastDay" "I", .methodLink RX4 36 yX2_forwardRate, .instanceMethod yX2_forwardRate, .selects RX2 yX2_forwardRate yX2_forwardRate, .initialized RX2, .code yX2_forwardRate cX2_forwardRate 2 (some .int), .fieldLink RX2 9 "Forwardroll$Currency" "spotRate" "I", .methodLink RX2 18 yX2_laterRate, .instanceMethod yX2_laterRate, .selects RX2 yX2_laterRate yX2_laterRate, .code yX2_laterRate cX2_laterRate 3 (some .int), .fieldLink RX2 22 "Forwardroll$Currency" "points" "I", .methodLink RX2 25 Lib.Math.max.name, .static Lib.Math.max.name, .initialized "java/lang/Math", .code Lib.Math.max.name Lib.Math.max.code 2 (some .int)] ++ wsX40 ++ wsX20)
def wsX5_homeAmount : List Cond := .code yX5_homeAmount cX5_homeAmount 2 (some .long) :: ([.constantLong RX5 224 (10000)])
def wsX4_gainAt : List Cond := .code yX4_gainAt cX4_gainAt 4 (some .long) :: ([.fieldLink RX4 23 "Forwardroll$Deal" "amountLeft" "I", .fieldLink RX4 27 "Forwardroll$Deal" "agreedRate" "I", .fieldLink RX4 19 "Forwardroll$Deal" "buys" "Z", .static yX5_homeAmount, .initialized RX5, .code yX5_homeAmount cX5_homeAmount 2 (some .long), .constantLong RX5 224 (10000)] ++ wsX40)
def wsX4_marketGain_r1 : List Cond := [Cond.methodLink RX4 42 yX4_marketRate, Cond.instanceMethod yX4_marketRate, Cond.selects RX4 yX4_marketRate yX4_marketRate, Cond.initialized RX4, Cond.code yX4_marketRate cX4_marketRate 2 (some .int), Cond.fieldLink RX4 15 "Forwardroll$Deal" "currency" "LForwardroll$Currency;", Cond.fieldLink RX4 33 "Forwardroll$Deal" "lastDay" "I", Cond.methodLink RX4 36 yX2_forwardRate, Cond.instanceMethod yX2_forwardRate, Cond.selects RX2 yX2_forwardRate yX2_forwardRate, Cond.initialized RX2, Cond.code yX2_forwardRate cX2_forwardRate 2 (some .int), Cond.fieldLink RX2 9 "Forwardroll$Currency" "spotRate" "I", Cond.methodLink RX2 18 yX2_laterRate, Cond.instanceMethod yX2_laterRate, Cond.selects RX2 yX2_laterRate yX2_laterRate, Cond.code yX2_laterRate cX2_laterRate 3 (some .int), Cond.fieldLink RX2 22 "Forwardroll$Currency" "points" "I", Cond.methodLink RX2 25 Lib.Math.max.name, Cond.static Lib.Math.max.name, Cond.initialized "java/lang/Math", Cond.code Lib.Math.max.name Lib.Math.max.code 2 (some .int), Cond.methodLink RX4 45 yX4_gainAt, Cond.instanceMethod yX4_gainAt]
def wsX4_marketGain_r2 : List Cond := [Cond.selects RX4 yX4_gainAt yX4_gainAt, Cond.code yX4_gainAt cX4_gainAt 4 (some .long), Cond.fieldLink RX4 23 "Forwardroll$Deal" "amountLeft" "I", Cond.fieldLink RX4 27 "Forwardroll$Deal" "agreedRate" "I", Cond.fieldLink RX4 19 "Forwardroll$Deal" "buys" "Z", Cond.static yX5_homeAmount, Cond.initialized RX5, Cond.code yX5_homeAmount cX5_homeAmount 2 (some .long), Cond.constantLong RX5 224 (10000)]
def wsX4_marketGain : List Cond := .code yX4_marketGain cX4_marketGain 2 (some .long) :: ((wsX4_marketGain_r1 ++ wsX4_marketGain_r2) ++ wsX40 ++ wsX20)
def wsX4_shiftedLoss_r1 : List Cond := [Cond.methodLink RX4 49 Lib.Math.max.name, Cond.static Lib.Math.max.name, Cond.initialized "java/lang/Math", Cond.code Lib.Math.max.name Lib.Math.max.code 2 (some .int), Cond.methodLink RX4 42 yX4_marketRate, Cond.instanceMethod yX4_marketRate, Cond.selects RX4 yX4_marketRate yX4_marketRate, Cond.initialized RX4, Cond.code yX4_marketRate cX4_marketRate 2 (some .int), Cond.fieldLink RX4 15 "Forwardroll$Deal" "currency" "LForwardroll$Currency;", Cond.fieldLink RX4 33 "Forwardroll$Deal" "lastDay" "I", Cond.methodLink RX4 36 yX2_forwardRate, Cond.instanceMethod yX2_forwardRate, Cond.selects RX2 yX2_forwardRate yX2_forwardRate, Cond.initialized RX2, Cond.code yX2_forwardRate cX2_forwardRate 2 (some .int), Cond.fieldLink RX2 9 "Forwardroll$Currency" "spotRate" "I", Cond.methodLink RX2 18 yX2_laterRate, Cond.instanceMethod yX2_laterRate, Cond.selects RX2 yX2_laterRate yX2_laterRate, Cond.code yX2_laterRate cX2_laterRate 3 (some .int), Cond.fieldLink RX2 22 "Forwardroll$Currency" "points" "I", Cond.methodLink RX2 25 Lib.Math.max.name, Cond.methodLink RX4 45 yX4_gainAt]
def wsX4_shiftedLoss_r2 : List Cond := [Cond.instanceMethod yX4_gainAt, Cond.selects RX4 yX4_gainAt yX4_gainAt, Cond.code yX4_gainAt cX4_gainAt 4 (some .long), Cond.fieldLink RX4 23 "Forwardroll$Deal" "amountLeft" "I", Cond.fieldLink RX4 27 "Forwardroll$Deal" "agreedRate" "I", Cond.fieldLink RX4 19 "Forwardroll$Deal" "buys" "Z", Cond.static yX5_homeAmount, Cond.initialized RX5, Cond.code yX5_homeAmount cX5_homeAmount 2 (some .long), Cond.constantLong RX5 224 (10000)]
def wsX4_shiftedLoss : List Cond := .code yX4_shiftedLoss cX4_shiftedLoss 4 (some .long) :: ((wsX4_shiftedLoss_r1 ++ wsX4_shiftedLoss_r2) ++ wsX40 ++ wsX20)
def wsX4_drawingRate : List Cond := .code yX4_drawingRate cX4_drawingRate 2 (some .int) :: ([.fieldLink RX4 30 "Forwardroll$Deal" "firstDay" "I", .fieldLink RX4 15 "Forwardroll$Deal" "currency" "LForwardroll$Currency;", .fieldLink RX4 27 "Forwardroll$Deal" "agreedRate" "I", .methodLink RX4 55 yX2_laterRate, .instanceMethod yX2_laterRate, .selects RX2 yX2_laterRate yX2_laterRate, .initialized RX2, .code yX2_laterRate cX2_laterRate 3 (some .int), .fieldLink RX2 22 "Forwardroll$Currency" "points" "I", .methodLink RX2 25 Lib.Math.max.name, .static Lib.Math.max.name, .initialized "java/lang/Math", .code Lib.Math.max.name Lib.Math.max.code 2 (some .int)] ++ wsX40 ++ wsX20)
def wsX4_moveWindow : List Cond := .code yX4_moveWindow cX4_moveWindow 2 none :: ([.fieldLink RX4 33 "Forwardroll$Deal" "lastDay" "I", .fieldLink RX4 30 "Forwardroll$Deal" "firstDay" "I"] ++ wsX40)
def wsX5_init_r1 : List Cond := [Cond.methodLink RX5 3 objectInit, Cond.instanceMethod objectInit, Cond.code objectInit ⟨#[0xb1]⟩ 1 none, Cond.classLink RX5 9 RX1, Cond.instantiable RX1 2, Cond.initialized RX1, Cond.fieldLink RX5 12 "Forwardroll" "calendar" "LForwardroll$Calendar;", Cond.classLink RX5 16 RX2, Cond.fieldLink RX5 18 "Forwardroll" "currencies" "[LForwardroll$Currency;", Cond.instantiable RX2 3, Cond.initialized RX2, Cond.classLink RX5 25 RX3, Cond.fieldLink RX5 27 "Forwardroll" "customers" "[LForwardroll$Customer;", Cond.instantiable RX3 3, Cond.initialized RX3, Cond.classLink RX5 32 RX4, Cond.fieldLink RX5 34 "Forwardroll" "deals" "[LForwardroll$Deal;", Cond.instanceMethod yX1_init, Cond.code yX1_init cX1_init 1 none, Cond.methodLink RX1 3 objectInit, Cond.arrayClass .boolean, Cond.fieldLink RX1 9 "Forwardroll$Calendar" "holidays" "[Z", Cond.methodLink RX5 22 yX2_init, Cond.instanceMethod yX2_init]
def wsX5_init_r2 : List Cond := [Cond.code yX2_init cX2_init 2 none, Cond.methodLink RX2 3 objectInit, Cond.fieldLink RX2 9 "Forwardroll$Currency" "spotRate" "I", Cond.fieldLink RX2 15 "Forwardroll$Currency" "number" "I", Cond.instanceMethod yX3_init, Cond.code yX3_init cX3_init 1 none, Cond.methodLink RX3 3 objectInit, Cond.constant RX3 9 (1000000), Cond.fieldLink RX3 10 "Forwardroll$Customer" "limit" "I", Cond.classLink RX3 16 RX0, Cond.fieldLink RX3 18 "Forwardroll$Customer" "netAmounts" "[LForwardroll$Amounts;", Cond.instantiable RX0 1, Cond.initialized RX0, Cond.fieldLink RX3 23 "Forwardroll$Customer" "balances" "LForwardroll$Amounts;", Cond.instanceMethod yX0_init, Cond.code yX0_init cX0_init 1 none, Cond.methodLink RX0 3 objectInit, Cond.arrayClass .long, Cond.fieldLink RX0 9 "Forwardroll$Amounts" "byMoney" "[J"]
def wsX5_init : List Cond := .code yX5_init cX5_init 2 none :: ((wsX5_init_r1 ++ wsX5_init_r2) ++ wsX10 ++ wsX50 ++ wsX20 ++ wsX30 ++ wsX00)
def wsX5_currencyNumbered : List Cond := .code yX5_currencyNumbered cX5_currencyNumbered 3 (some (.object "Forwardroll$Currency")) :: ([.classLink RX5 197 "java/lang/IndexOutOfBoundsException", .initialized "java/lang/IndexOutOfBoundsException", .fieldLink RX5 18 "Forwardroll" "currencies" "[LForwardroll$Currency;", .methodLink RX5 84 yX5_isIndex, .static yX5_isIndex, .initialized RX5, .code yX5_isIndex cX5_isIndex 2 (some .boolean)] ++ wsX50 ++ (vx_atS RX5 201 "java/lang/IndexOutOfBoundsException" ["java/lang/RuntimeException", "java/lang/Exception"]).filter goodWord)
def wsX5_requireRange : List Cond := .code yX5_requireRange cX5_requireRange 3 none :: ([.classLink RX5 206 "java/lang/IllegalArgumentException", .initialized "java/lang/IllegalArgumentException"] ++ (vx_atS RX5 210 "java/lang/IllegalArgumentException" ["java/lang/RuntimeException", "java/lang/Exception"]).filter goodWord)
def wsX5_setRate : List Cond := .code yX5_setRate cX5_setRate 5 (some .int) :: ([.constant RX5 42 (100000), .methodLink RX5 38 yX5_currencyNumbered, .instanceMethod yX5_currencyNumbered, .selects RX5 yX5_currencyNumbered yX5_currencyNumbered, .initialized RX5, .code yX5_currencyNumbered cX5_currencyNumbered 3 (some (.object "Forwardroll$Currency")), .classLink RX5 197 "java/lang/IndexOutOfBoundsException", .initialized "java/lang/IndexOutOfBoundsException", .fieldLink RX5 18 "Forwardroll" "currencies" "[LForwardroll$Currency;", .methodLink RX5 84 yX5_isIndex, .static yX5_isIndex, .code yX5_isIndex cX5_isIndex 2 (some .boolean), .methodLink RX5 43 yX5_requireRange, .static yX5_requireRange, .code yX5_requireRange cX5_requireRange 3 none, .classLink RX5 206 "java/lang/IllegalArgumentException", .initialized "java/lang/IllegalArgumentException"] ++ wsX20 ++ wsX50 ++ (vx_atS RX5 201 "java/lang/IndexOutOfBoundsException" ["java/lang/RuntimeException", "java/lang/Exception"]).filter goodWord ++ (vx_atS RX5 210 "java/lang/IllegalArgumentException" ["java/lang/RuntimeException", "java/lang/Exception"]).filter goodWord)
def wsX5_setPoints : List Cond := .code yX5_setPoints cX5_setPoints 5 (some .int) :: ([.methodLink RX5 38 yX5_currencyNumbered, .instanceMethod yX5_currencyNumbered, .selects RX5 yX5_currencyNumbered yX5_currencyNumbered, .initialized RX5, .code yX5_currencyNumbered cX5_currencyNumbered 3 (some (.object "Forwardroll$Currency")), .classLink RX5 197 "java/lang/IndexOutOfBoundsException", .initialized "java/lang/IndexOutOfBoundsException", .fieldLink RX5 18 "Forwardroll" "currencies" "[LForwardroll$Currency;", .methodLink RX5 84 yX5_isIndex, .static yX5_isIndex, .code yX5_isIndex cX5_isIndex 2 (some .boolean), .methodLink RX5 43 yX5_requireRange, .static yX5_requireRange, .code yX5_requireRange cX5_requireRange 3 none, .classLink RX5 206 "java/lang/IllegalArgumentException", .initialized "java/lang/IllegalArgumentException"] ++ wsX20 ++ wsX50 ++ (vx_atS RX5 201 "java/lang/IndexOutOfBoundsException" ["java/lang/RuntimeException", "java/lang/Exception"]).filter goodWord ++ (vx_atS RX5 210 "java/lang/IllegalArgumentException" ["java/lang/RuntimeException", "java/lang/Exception"]).filter goodWord)
def wsX5_toggleHoliday : List Cond := .code yX5_toggleHoliday cX5_toggleHoliday 2 (some .boolean) :: ([.classLink RX5 57 "java/lang/IllegalStateException", .initialized "java/lang/IllegalStateException", .fieldLink RX5 12 "Forwardroll" "calendar" "LForwardroll$Calendar;", .methodLink RX5 43 yX5_requireRange, .static yX5_requireRange, .initialized RX5, .code yX5_requireRange cX5_requireRange 3 none, .classLink RX5 206 "java/lang/IllegalArgumentException", .initialized "java/lang/IllegalArgumentException", .methodLink RX5 64 yX1_flipHoliday, .instanceMethod yX1_flipHoliday, .selects RX1 yX1_flipHoliday yX1_flipHoliday, .initialized RX1, .code yX1_flipHoliday cX1_flipHoliday 2 (some .boolean), .fieldLink RX1 9 "Forwardroll$Calendar" "holidays" "[Z", .static yX5_isIndex, .code yX5_isIndex cX5_isIndex 2 (some .boolean)] ++ wsX50 ++ wsX10 ++ (vx_atS RX5 61 "java/lang/IllegalStateException" ["java/lang/RuntimeException", "java/lang/Exception"]).filter goodWord ++ (vx_atS RX5 210 "java/lang/IllegalArgumentException" ["java/lang/RuntimeException", "java/lang/Exception"]).filter goodWord)
def wsX5_customerNumbered : List Cond := .code yX5_customerNumbered cX5_customerNumbered 3 (some (.object "Forwardroll$Customer")) :: ([.classLink RX5 197 "java/lang/IndexOutOfBoundsException", .initialized "java/lang/IndexOutOfBoundsException", .fieldLink RX5 27 "Forwardroll" "customers" "[LForwardroll$Customer;", .methodLink RX5 84 yX5_isIndex, .static yX5_isIndex, .initialized RX5, .code yX5_isIndex cX5_isIndex 2 (some .boolean)] ++ wsX50 ++ (vx_atS RX5 201 "java/lang/IndexOutOfBoundsException" ["java/lang/RuntimeException", "java/lang/Exception"]).filter goodWord)
def wsX5_setLimit : List Cond := .code yX5_setLimit cX5_setLimit 5 (some .int) :: ([.constant RX5 72 (100000000), .methodLink RX5 68 yX5_customerNumbered, .instanceMethod yX5_customerNumbered, .selects RX5 yX5_customerNumbered yX5_customerNumbered, .initialized RX5, .code yX5_customerNumbered cX5_customerNumbered 3 (some (.object "Forwardroll$Customer")), .classLink RX5 197 "java/lang/IndexOutOfBoundsException", .initialized "java/lang/IndexOutOfBoundsException", .fieldLink RX5 27 "Forwardroll" "customers" "[LForwardroll$Customer;", .methodLink RX5 84 yX5_isIndex, .static yX5_isIndex, .code yX5_isIndex cX5_isIndex 2 (some .boolean), .methodLink RX5 43 yX5_requireRange, .static yX5_requireRange, .code yX5_requireRange cX5_requireRange 3 none, .classLink RX5 206 "java/lang/IllegalArgumentException", .initialized "java/lang/IllegalArgumentException"] ++ wsX30 ++ wsX50 ++ (vx_atS RX5 201 "java/lang/IndexOutOfBoundsException" ["java/lang/RuntimeException", "java/lang/Exception"]).filter goodWord ++ (vx_atS RX5 210 "java/lang/IllegalArgumentException" ["java/lang/RuntimeException", "java/lang/Exception"]).filter goodWord)
def wsX5_forward_r1 : List Cond := [Cond.methodLink RX5 38 yX5_currencyNumbered, Cond.instanceMethod yX5_currencyNumbered, Cond.selects RX5 yX5_currencyNumbered yX5_currencyNumbered, Cond.initialized RX5, Cond.code yX5_currencyNumbered cX5_currencyNumbered 3 (some (.object "Forwardroll$Currency")), Cond.classLink RX5 197 "java/lang/IndexOutOfBoundsException", Cond.initialized "java/lang/IndexOutOfBoundsException", Cond.fieldLink RX5 18 "Forwardroll" "currencies" "[LForwardroll$Currency;", Cond.methodLink RX5 84 yX5_isIndex, Cond.static yX5_isIndex, Cond.code yX5_isIndex cX5_isIndex 2 (some .boolean), Cond.methodLink RX5 43 yX5_requireRange, Cond.static yX5_requireRange, Cond.code yX5_requireRange cX5_requireRange 3 none, Cond.classLink RX5 206 "java/lang/IllegalArgumentException", Cond.initialized "java/lang/IllegalArgumentException", Cond.methodLink RX5 76 yX2_forwardRate, Cond.instanceMethod yX2_forwardRate, Cond.selects RX2 yX2_forwardRate yX2_forwardRate, Cond.initialized RX2, Cond.code yX2_forwardRate cX2_forwardRate 2 (some .int), Cond.fieldLink RX2 9 "Forwardroll$Currency" "spotRate" "I", Cond.methodLink RX2 18 yX2_laterRate, Cond.instanceMethod yX2_laterRate]
def wsX5_forward_r2 : List Cond := [Cond.selects RX2 yX2_laterRate yX2_laterRate, Cond.code yX2_laterRate cX2_laterRate 3 (some .int), Cond.fieldLink RX2 22 "Forwardroll$Currency" "points" "I", Cond.methodLink RX2 25 Lib.Math.max.name, Cond.static Lib.Math.max.name, Cond.initialized "java/lang/Math", Cond.code Lib.Math.max.name Lib.Math.max.code 2 (some .int)]
def wsX5_forward : List Cond := .code yX5_forward cX5_forward 4 (some .int) :: ((wsX5_forward_r1 ++ wsX5_forward_r2) ++ wsX50 ++ wsX20 ++ (vx_atS RX5 201 "java/lang/IndexOutOfBoundsException" ["java/lang/RuntimeException", "java/lang/Exception"]).filter goodWord ++ (vx_atS RX5 210 "java/lang/IllegalArgumentException" ["java/lang/RuntimeException", "java/lang/Exception"]).filter goodWord)
def wsX5_lossOfAll_r1 : List Cond := [Cond.fieldLink RX5 34 "Forwardroll" "deals" "[LForwardroll$Deal;", Cond.fieldLink RX5 12 "Forwardroll" "calendar" "LForwardroll$Calendar;", Cond.methodLink RX5 216 yX4_shiftedLoss, Cond.instanceMethod yX4_shiftedLoss, Cond.selects RX4 yX4_shiftedLoss yX4_shiftedLoss, Cond.initialized RX4, Cond.code yX4_shiftedLoss cX4_shiftedLoss 4 (some .long), Cond.methodLink RX4 49 Lib.Math.max.name, Cond.static Lib.Math.max.name, Cond.initialized "java/lang/Math", Cond.code Lib.Math.max.name Lib.Math.max.code 2 (some .int), Cond.methodLink RX4 42 yX4_marketRate, Cond.instanceMethod yX4_marketRate, Cond.selects RX4 yX4_marketRate yX4_marketRate, Cond.code yX4_marketRate cX4_marketRate 2 (some .int), Cond.fieldLink RX4 15 "Forwardroll$Deal" "currency" "LForwardroll$Currency;", Cond.fieldLink RX4 33 "Forwardroll$Deal" "lastDay" "I", Cond.methodLink RX4 36 yX2_forwardRate, Cond.instanceMethod yX2_forwardRate, Cond.selects RX2 yX2_forwardRate yX2_forwardRate, Cond.initialized RX2, Cond.code yX2_forwardRate cX2_forwardRate 2 (some .int), Cond.fieldLink RX2 9 "Forwardroll$Currency" "spotRate" "I", Cond.methodLink RX2 18 yX2_laterRate]
def wsX5_lossOfAll_r2 : List Cond := [Cond.instanceMethod yX2_laterRate, Cond.selects RX2 yX2_laterRate yX2_laterRate, Cond.code yX2_laterRate cX2_laterRate 3 (some .int), Cond.fieldLink RX2 22 "Forwardroll$Currency" "points" "I", Cond.methodLink RX2 25 Lib.Math.max.name, Cond.methodLink RX4 45 yX4_gainAt, Cond.instanceMethod yX4_gainAt, Cond.selects RX4 yX4_gainAt yX4_gainAt, Cond.code yX4_gainAt cX4_gainAt 4 (some .long), Cond.fieldLink RX4 23 "Forwardroll$Deal" "amountLeft" "I", Cond.fieldLink RX4 27 "Forwardroll$Deal" "agreedRate" "I", Cond.fieldLink RX4 19 "Forwardroll$Deal" "buys" "Z", Cond.static yX5_homeAmount, Cond.initialized RX5, Cond.code yX5_homeAmount cX5_homeAmount 2 (some .long), Cond.constantLong RX5 224 (10000)]
def wsX5_lossOfAll : List Cond := .code yX5_lossOfAll cX5_lossOfAll 9 (some .long) :: ((wsX5_lossOfAll_r1 ++ wsX5_lossOfAll_r2) ++ wsX50 ++ wsX40 ++ wsX10 ++ wsX20)
def wsX5_worseLoss : List Cond := .code yX5_worseLoss cX5_worseLoss 4 (some .long) :: ([.methodLink RX5 219 Lib.MathLoose.max_long.x, .static Lib.MathLoose.max_long.x, .initialized "java/lang/Math", .code Lib.MathLoose.max_long.x Lib.MathLoose.max_long.code 4 (some .long)])
def wsX5_exposureWith_r1 : List Cond := [Cond.fieldLink RX5 12 "Forwardroll" "calendar" "LForwardroll$Calendar;", Cond.methodLink RX5 169 yX5_lossOfAll, Cond.instanceMethod yX5_lossOfAll, Cond.selects RX5 yX5_lossOfAll yX5_lossOfAll, Cond.initialized RX5, Cond.code yX5_lossOfAll cX5_lossOfAll 9 (some .long), Cond.fieldLink RX5 34 "Forwardroll" "deals" "[LForwardroll$Deal;", Cond.methodLink RX5 216 yX4_shiftedLoss, Cond.instanceMethod yX4_shiftedLoss, Cond.selects RX4 yX4_shiftedLoss yX4_shiftedLoss, Cond.initialized RX4, Cond.code yX4_shiftedLoss cX4_shiftedLoss 4 (some .long), Cond.methodLink RX4 49 Lib.Math.max.name, Cond.static Lib.Math.max.name, Cond.initialized "java/lang/Math", Cond.code Lib.Math.max.name Lib.Math.max.code 2 (some .int), Cond.methodLink RX4 42 yX4_marketRate, Cond.instanceMethod yX4_marketRate, Cond.selects RX4 yX4_marketRate yX4_marketRate, Cond.code yX4_marketRate cX4_marketRate 2 (some .int), Cond.fieldLink RX4 15 "Forwardroll$Deal" "currency" "LForwardroll$Currency;", Cond.fieldLink RX4 33 "Forwardroll$Deal" "lastDay" "I", Cond.methodLink RX4 36 yX2_forwardRate, Cond.instanceMethod yX2_forwardRate]
def wsX5_exposureWith_r2 : List Cond := [Cond.selects RX2 yX2_forwardRate yX2_forwardRate, Cond.initialized RX2, Cond.code yX2_forwardRate cX2_forwardRate 2 (some .int), Cond.fieldLink RX2 9 "Forwardroll$Currency" "spotRate" "I", Cond.methodLink RX2 18 yX2_laterRate, Cond.instanceMethod yX2_laterRate, Cond.selects RX2 yX2_laterRate yX2_laterRate, Cond.code yX2_laterRate cX2_laterRate 3 (some .int), Cond.fieldLink RX2 22 "Forwardroll$Currency" "points" "I", Cond.methodLink RX2 25 Lib.Math.max.name, Cond.methodLink RX4 45 yX4_gainAt, Cond.instanceMethod yX4_gainAt, Cond.selects RX4 yX4_gainAt yX4_gainAt, Cond.code yX4_gainAt cX4_gainAt 4 (some .long), Cond.fieldLink RX4 23 "Forwardroll$Deal" "amountLeft" "I", Cond.fieldLink RX4 27 "Forwardroll$Deal" "agreedRate" "I", Cond.fieldLink RX4 19 "Forwardroll$Deal" "buys" "Z", Cond.static yX5_homeAmount, Cond.code yX5_homeAmount cX5_homeAmount 2 (some .long), Cond.constantLong RX5 224 (10000), Cond.methodLink RX5 173 yX5_worseLoss, Cond.static yX5_worseLoss, Cond.code yX5_worseLoss cX5_worseLoss 4 (some .long), Cond.methodLink RX5 219 Lib.MathLoose.max_long.x]
def wsX5_exposureWith_r3 : List Cond := [Cond.static Lib.MathLoose.max_long.x, Cond.code Lib.MathLoose.max_long.x Lib.MathLoose.max_long.code 4 (some .long)]
def wsX5_exposureWith : List Cond := .code yX5_exposureWith cX5_exposureWith 4 (some .long) :: ((wsX5_exposureWith_r1 ++ (wsX5_exposureWith_r2 ++ wsX5_exposureWith_r3)) ++ wsX50 ++ wsX10 ++ wsX40 ++ wsX20)
def wsX5_deal_r1 : List Cond := [Cond.classLink RX5 57 "java/lang/IllegalStateException", Cond.initialized "java/lang/IllegalStateException", Cond.constant RX5 80 (1000000), Cond.fieldLink RX5 81 "Forwardroll" "dealCount" "I", Cond.fieldLink RX5 34 "Forwardroll" "deals" "[LForwardroll$Deal;", Cond.fieldLink RX5 12 "Forwardroll" "calendar" "LForwardroll$Calendar;", Cond.classLink RX5 32 RX4, Cond.instantiable RX4 7, Cond.initialized RX4, Cond.methodLink RX5 68 yX5_customerNumbered, Cond.instanceMethod yX5_customerNumbered, Cond.selects RX5 yX5_customerNumbered yX5_customerNumbered, Cond.initialized RX5, Cond.code yX5_customerNumbered cX5_customerNumbered 3 (some (.object "Forwardroll$Customer")), Cond.classLink RX5 197 "java/lang/IndexOutOfBoundsException", Cond.initialized "java/lang/IndexOutOfBoundsException", Cond.fieldLink RX5 27 "Forwardroll" "customers" "[LForwardroll$Customer;", Cond.methodLink RX5 84 yX5_isIndex, Cond.static yX5_isIndex, Cond.code yX5_isIndex cX5_isIndex 2 (some .boolean), Cond.methodLink RX5 38 yX5_currencyNumbered, Cond.instanceMethod yX5_currencyNumbered, Cond.selects RX5 yX5_currencyNumbered yX5_currencyNumbered, Cond.code yX5_currencyNumbered cX5_currencyNumbered 3 (some (.object "Forwardroll$Currency"))]
def wsX5_deal_r2 : List Cond := [Cond.fieldLink RX5 18 "Forwardroll" "currencies" "[LForwardroll$Currency;", Cond.methodLink RX5 43 yX5_requireRange, Cond.static yX5_requireRange, Cond.code yX5_requireRange cX5_requireRange 3 none, Cond.classLink RX5 206 "java/lang/IllegalArgumentException", Cond.initialized "java/lang/IllegalArgumentException", Cond.methodLink RX5 76 yX2_forwardRate, Cond.instanceMethod yX2_forwardRate, Cond.selects RX2 yX2_forwardRate yX2_forwardRate, Cond.initialized RX2, Cond.code yX2_forwardRate cX2_forwardRate 2 (some .int), Cond.fieldLink RX2 9 "Forwardroll$Currency" "spotRate" "I", Cond.methodLink RX2 18 yX2_laterRate, Cond.instanceMethod yX2_laterRate, Cond.selects RX2 yX2_laterRate yX2_laterRate, Cond.code yX2_laterRate cX2_laterRate 3 (some .int), Cond.fieldLink RX2 22 "Forwardroll$Currency" "points" "I", Cond.methodLink RX2 25 Lib.Math.max.name, Cond.static Lib.Math.max.name, Cond.initialized "java/lang/Math", Cond.code Lib.Math.max.name Lib.Math.max.code 2 (some .int), Cond.methodLink RX5 90 yX4_init, Cond.instanceMethod yX4_init, Cond.code yX4_init cX4_init 8 none]
def wsX5_deal_r3 : List Cond := [Cond.methodLink RX4 3 objectInit, Cond.instanceMethod objectInit, Cond.code objectInit ⟨#[0xb1]⟩ 1 none, Cond.fieldLink RX4 9 "Forwardroll$Deal" "customer" "LForwardroll$Customer;", Cond.fieldLink RX4 15 "Forwardroll$Deal" "currency" "LForwardroll$Currency;", Cond.fieldLink RX4 19 "Forwardroll$Deal" "buys" "Z", Cond.fieldLink RX4 23 "Forwardroll$Deal" "amountLeft" "I", Cond.fieldLink RX4 27 "Forwardroll$Deal" "agreedRate" "I", Cond.fieldLink RX4 30 "Forwardroll$Deal" "firstDay" "I", Cond.fieldLink RX4 33 "Forwardroll$Deal" "lastDay" "I", Cond.methodLink RX5 93 yX5_exposureWith, Cond.instanceMethod yX5_exposureWith, Cond.selects RX5 yX5_exposureWith yX5_exposureWith, Cond.code yX5_exposureWith cX5_exposureWith 4 (some .long), Cond.methodLink RX5 169 yX5_lossOfAll, Cond.instanceMethod yX5_lossOfAll, Cond.selects RX5 yX5_lossOfAll yX5_lossOfAll, Cond.code yX5_lossOfAll cX5_lossOfAll 9 (some .long), Cond.methodLink RX5 216 yX4_shiftedLoss, Cond.instanceMethod yX4_shiftedLoss, Cond.selects RX4 yX4_shiftedLoss yX4_shiftedLoss, Cond.code yX4_shiftedLoss cX4_shiftedLoss 4 (some .long), Cond.methodLink RX4 49 Lib.Math.max.name, Cond.methodLink RX4 42 yX4_marketRate]
def wsX5_deal_r4 : List Cond := [Cond.instanceMethod yX4_marketRate, Cond.selects RX4 yX4_marketRate yX4_marketRate, Cond.code yX4_marketRate cX4_marketRate 2 (some .int), Cond.methodLink RX4 36 yX2_forwardRate, Cond.methodLink RX4 45 yX4_gainAt, Cond.instanceMethod yX4_gainAt, Cond.selects RX4 yX4_gainAt yX4_gainAt, Cond.code yX4_gainAt cX4_gainAt 4 (some .long), Cond.static yX5_homeAmount, Cond.code yX5_homeAmount cX5_homeAmount 2 (some .long), Cond.constantLong RX5 224 (10000), Cond.methodLink RX5 173 yX5_worseLoss, Cond.static yX5_worseLoss, Cond.code yX5_worseLoss cX5_worseLoss 4 (some .long), Cond.methodLink RX5 219 Lib.MathLoose.max_long.x, Cond.static Lib.MathLoose.max_long.x, Cond.code Lib.MathLoose.max_long.x Lib.MathLoose.max_long.code 4 (some .long)]
def wsX5_deal : List Cond := .code yX5_deal cX5_deal 12 (some .int) :: ((wsX5_deal_r1 ++ (wsX5_deal_r2 ++ (wsX5_deal_r3 ++ wsX5_deal_r4))) ++ wsX50 ++ wsX10 ++ wsX40 ++ wsX30 ++ wsX20 ++ (vx_atS RX5 61 "java/lang/IllegalStateException" ["java/lang/RuntimeException", "java/lang/Exception"]).filter goodWord ++ (vx_atS RX5 201 "java/lang/IndexOutOfBoundsException" ["java/lang/RuntimeException", "java/lang/Exception"]).filter goodWord ++ (vx_atS RX5 210 "java/lang/IllegalArgumentException" ["java/lang/RuntimeException", "java/lang/Exception"]).filter goodWord)
def wsX5_dealNumbered : List Cond := .code yX5_dealNumbered cX5_dealNumbered 3 (some (.object "Forwardroll$Deal")) :: ([.classLink RX5 197 "java/lang/IndexOutOfBoundsException", .initialized "java/lang/IndexOutOfBoundsException", .fieldLink RX5 34 "Forwardroll" "deals" "[LForwardroll$Deal;", .methodLink RX5 84 yX5_isIndex, .static yX5_isIndex, .initialized RX5, .code yX5_isIndex cX5_isIndex 2 (some .boolean)] ++ wsX50 ++ (vx_atS RX5 201 "java/lang/IndexOutOfBoundsException" ["java/lang/RuntimeException", "java/lang/Exception"]).filter goodWord)
def wsX5_draw_r1 : List Cond := [Cond.fieldLink RX5 12 "Forwardroll" "calendar" "LForwardroll$Calendar;", Cond.methodLink RX5 99 yX5_dealNumbered, Cond.instanceMethod yX5_dealNumbered, Cond.selects RX5 yX5_dealNumbered yX5_dealNumbered, Cond.initialized RX5, Cond.code yX5_dealNumbered cX5_dealNumbered 3 (some (.object "Forwardroll$Deal")), Cond.classLink RX5 197 "java/lang/IndexOutOfBoundsException", Cond.initialized "java/lang/IndexOutOfBoundsException", Cond.fieldLink RX5 34 "Forwardroll" "deals" "[LForwardroll$Deal;", Cond.methodLink RX5 84 yX5_isIndex, Cond.static yX5_isIndex, Cond.code yX5_isIndex cX5_isIndex 2 (some .boolean), Cond.methodLink RX5 43 yX5_requireRange, Cond.static yX5_requireRange, Cond.code yX5_requireRange cX5_requireRange 3 none, Cond.classLink RX5 206 "java/lang/IllegalArgumentException", Cond.initialized "java/lang/IllegalArgumentException", Cond.methodLink RX5 106 yX4_drawingRate, Cond.instanceMethod yX4_drawingRate, Cond.selects RX4 yX4_drawingRate yX4_drawingRate, Cond.initialized RX4, Cond.code yX4_drawingRate cX4_drawingRate 2 (some .int), Cond.fieldLink RX4 30 "Forwardroll$Deal" "firstDay" "I", Cond.fieldLink RX4 15 "Forwardroll$Deal" "currency" "LForwardroll$Currency;"]
def wsX5_draw_r2 : List Cond := [Cond.fieldLink RX4 27 "Forwardroll$Deal" "agreedRate" "I", Cond.methodLink RX4 55 yX2_laterRate, Cond.instanceMethod yX2_laterRate, Cond.selects RX2 yX2_laterRate yX2_laterRate, Cond.initialized RX2, Cond.code yX2_laterRate cX2_laterRate 3 (some .int), Cond.fieldLink RX2 22 "Forwardroll$Currency" "points" "I", Cond.methodLink RX2 25 Lib.Math.max.name, Cond.static Lib.Math.max.name, Cond.initialized "java/lang/Math", Cond.code Lib.Math.max.name Lib.Math.max.code 2 (some .int), Cond.methodLink RX5 109 yX5_homeAmount, Cond.static yX5_homeAmount, Cond.code yX5_homeAmount cX5_homeAmount 2 (some .long), Cond.constantLong RX5 224 (10000), Cond.methodLink RX5 113 yX1_nextBusinessDay, Cond.instanceMethod yX1_nextBusinessDay, Cond.selects RX1 yX1_nextBusinessDay yX1_nextBusinessDay, Cond.initialized RX1, Cond.code yX1_nextBusinessDay cX1_nextBusinessDay 2 (some .int), Cond.fieldLink RX1 19 "Forwardroll$Calendar" "today" "I", Cond.methodLink RX1 23 yX1_isBusinessDay, Cond.instanceMethod yX1_isBusinessDay, Cond.selects RX1 yX1_isBusinessDay yX1_isBusinessDay]
def wsX5_draw_r3 : List Cond := [Cond.code yX1_isBusinessDay cX1_isBusinessDay 3 (some .boolean), Cond.fieldLink RX1 9 "Forwardroll$Calendar" "holidays" "[Z", Cond.methodLink RX5 132 yX3_book, Cond.instanceMethod yX3_book, Cond.selects RX3 yX3_book yX3_book, Cond.initialized RX3, Cond.code yX3_book cX3_book 6 none, Cond.fieldLink RX3 18 "Forwardroll$Customer" "netAmounts" "[LForwardroll$Amounts;", Cond.classLink RX3 16 RX0, Cond.instantiable RX0 1, Cond.initialized RX0, Cond.instanceMethod yX0_init, Cond.code yX0_init cX0_init 1 none, Cond.methodLink RX0 3 objectInit, Cond.instanceMethod objectInit, Cond.code objectInit ⟨#[0xb1]⟩ 1 none, Cond.arrayClass .long, Cond.fieldLink RX0 9 "Forwardroll$Amounts" "byMoney" "[J", Cond.methodLink RX3 31 yX0_add, Cond.instanceMethod yX0_add, Cond.selects RX0 yX0_add yX0_add, Cond.code yX0_add cX0_add 4 none]
def wsX5_draw : List Cond := .code yX5_draw cX5_draw 8 (some .int) :: ((wsX5_draw_r1 ++ (wsX5_draw_r2 ++ wsX5_draw_r3)) ++ wsX40 ++ wsX50 ++ wsX10 ++ wsX20 ++ wsX30 ++ wsX00 ++ (vx_atS RX5 201 "java/lang/IndexOutOfBoundsException" ["java/lang/RuntimeException", "java/lang/Exception"]).filter goodWord ++ (vx_atS RX5 210 "java/lang/IllegalArgumentException" ["java/lang/RuntimeException", "java/lang/Exception"]).filter goodWord)
def wsX5_requireLeft : List Cond := .code yX5_requireLeft cX5_requireLeft 1 none :: ([.classLink RX5 57 "java/lang/IllegalStateException", .initialized "java/lang/IllegalStateException"] ++ wsX40 ++ (vx_atS RX5 61 "java/lang/IllegalStateException" ["java/lang/RuntimeException", "java/lang/Exception"]).filter goodWord)
def wsX5_bookGain_r1 : List Cond := [Cond.fieldLink RX5 12 "Forwardroll" "calendar" "LForwardroll$Calendar;", Cond.methodLink RX5 165 yX4_marketGain, Cond.instanceMethod yX4_marketGain, Cond.selects RX4 yX4_marketGain yX4_marketGain, Cond.initialized RX4, Cond.code yX4_marketGain cX4_marketGain 2 (some .long), Cond.methodLink RX4 42 yX4_marketRate, Cond.instanceMethod yX4_marketRate, Cond.selects RX4 yX4_marketRate yX4_marketRate, Cond.code yX4_marketRate cX4_marketRate 2 (some .int), Cond.fieldLink RX4 15 "Forwardroll$Deal" "currency" "LForwardroll$Currency;", Cond.fieldLink RX4 33 "Forwardroll$Deal" "lastDay" "I", Cond.methodLink RX4 36 yX2_forwardRate, Cond.instanceMethod yX2_forwardRate, Cond.selects RX2 yX2_forwardRate yX2_forwardRate, Cond.initialized RX2, Cond.code yX2_forwardRate cX2_forwardRate 2 (some .int), Cond.fieldLink RX2 9 "Forwardroll$Currency" "spotRate" "I", Cond.methodLink RX2 18 yX2_laterRate, Cond.instanceMethod yX2_laterRate, Cond.selects RX2 yX2_laterRate yX2_laterRate, Cond.code yX2_laterRate cX2_laterRate 3 (some .int), Cond.fieldLink RX2 22 "Forwardroll$Currency" "points" "I", Cond.methodLink RX2 25 Lib.Math.max.name]
def wsX5_bookGain_r2 : List Cond := [Cond.static Lib.Math.max.name, Cond.initialized "java/lang/Math", Cond.code Lib.Math.max.name Lib.Math.max.code 2 (some .int), Cond.methodLink RX4 45 yX4_gainAt, Cond.instanceMethod yX4_gainAt, Cond.selects RX4 yX4_gainAt yX4_gainAt, Cond.code yX4_gainAt cX4_gainAt 4 (some .long), Cond.fieldLink RX4 23 "Forwardroll$Deal" "amountLeft" "I", Cond.fieldLink RX4 27 "Forwardroll$Deal" "agreedRate" "I", Cond.fieldLink RX4 19 "Forwardroll$Deal" "buys" "Z", Cond.static yX5_homeAmount, Cond.initialized RX5, Cond.code yX5_homeAmount cX5_homeAmount 2 (some .long), Cond.constantLong RX5 224 (10000), Cond.methodLink RX5 113 yX1_nextBusinessDay, Cond.instanceMethod yX1_nextBusinessDay, Cond.selects RX1 yX1_nextBusinessDay yX1_nextBusinessDay, Cond.initialized RX1, Cond.code yX1_nextBusinessDay cX1_nextBusinessDay 2 (some .int), Cond.fieldLink RX1 19 "Forwardroll$Calendar" "today" "I", Cond.methodLink RX1 23 yX1_isBusinessDay, Cond.instanceMethod yX1_isBusinessDay, Cond.selects RX1 yX1_isBusinessDay yX1_isBusinessDay, Cond.code yX1_isBusinessDay cX1_isBusinessDay 3 (some .boolean)]
def wsX5_bookGain_r3 : List Cond := [Cond.fieldLink RX1 9 "Forwardroll$Calendar" "holidays" "[Z", Cond.static yX5_isIndex, Cond.code yX5_isIndex cX5_isIndex 2 (some .boolean), Cond.methodLink RX5 132 yX3_book, Cond.instanceMethod yX3_book, Cond.selects RX3 yX3_book yX3_book, Cond.initialized RX3, Cond.code yX3_book cX3_book 6 none, Cond.fieldLink RX3 18 "Forwardroll$Customer" "netAmounts" "[LForwardroll$Amounts;", Cond.classLink RX3 16 RX0, Cond.instantiable RX0 1, Cond.initialized RX0, Cond.instanceMethod yX0_init, Cond.code yX0_init cX0_init 1 none, Cond.methodLink RX0 3 objectInit, Cond.instanceMethod objectInit, Cond.code objectInit ⟨#[0xb1]⟩ 1 none, Cond.arrayClass .long, Cond.fieldLink RX0 9 "Forwardroll$Amounts" "byMoney" "[J", Cond.methodLink RX3 31 yX0_add, Cond.instanceMethod yX0_add, Cond.selects RX0 yX0_add yX0_add, Cond.code yX0_add cX0_add 4 none]
def wsX5_bookGain : List Cond := .code yX5_bookGain cX5_bookGain 4 (some .long) :: ((wsX5_bookGain_r1 ++ (wsX5_bookGain_r2 ++ wsX5_bookGain_r3)) ++ wsX50 ++ wsX10 ++ wsX40 ++ wsX20 ++ wsX30 ++ wsX00)
def wsX5_roll_r1 : List Cond := [Cond.classLink RX5 57 "java/lang/IllegalStateException", Cond.initialized "java/lang/IllegalStateException", Cond.fieldLink RX5 12 "Forwardroll" "calendar" "LForwardroll$Calendar;", Cond.methodLink RX5 99 yX5_dealNumbered, Cond.instanceMethod yX5_dealNumbered, Cond.selects RX5 yX5_dealNumbered yX5_dealNumbered, Cond.initialized RX5, Cond.code yX5_dealNumbered cX5_dealNumbered 3 (some (.object "Forwardroll$Deal")), Cond.classLink RX5 197 "java/lang/IndexOutOfBoundsException", Cond.initialized "java/lang/IndexOutOfBoundsException", Cond.fieldLink RX5 34 "Forwardroll" "deals" "[LForwardroll$Deal;", Cond.methodLink RX5 84 yX5_isIndex, Cond.static yX5_isIndex, Cond.code yX5_isIndex cX5_isIndex 2 (some .boolean), Cond.methodLink RX5 43 yX5_requireRange, Cond.static yX5_requireRange, Cond.code yX5_requireRange cX5_requireRange 3 none, Cond.classLink RX5 206 "java/lang/IllegalArgumentException", Cond.initialized "java/lang/IllegalArgumentException", Cond.methodLink RX5 136 yX5_requireLeft, Cond.static yX5_requireLeft, Cond.code yX5_requireLeft cX5_requireLeft 1 none, Cond.methodLink RX5 145 yX5_bookGain, Cond.instanceMethod yX5_bookGain]
def wsX5_roll_r2 : List Cond := [Cond.selects RX5 yX5_bookGain yX5_bookGain, Cond.code yX5_bookGain cX5_bookGain 4 (some .long), Cond.methodLink RX5 165 yX4_marketGain, Cond.instanceMethod yX4_marketGain, Cond.selects RX4 yX4_marketGain yX4_marketGain, Cond.initialized RX4, Cond.code yX4_marketGain cX4_marketGain 2 (some .long), Cond.methodLink RX4 42 yX4_marketRate, Cond.instanceMethod yX4_marketRate, Cond.selects RX4 yX4_marketRate yX4_marketRate, Cond.code yX4_marketRate cX4_marketRate 2 (some .int), Cond.fieldLink RX4 15 "Forwardroll$Deal" "currency" "LForwardroll$Currency;", Cond.fieldLink RX4 33 "Forwardroll$Deal" "lastDay" "I", Cond.methodLink RX4 36 yX2_forwardRate, Cond.instanceMethod yX2_forwardRate, Cond.selects RX2 yX2_forwardRate yX2_forwardRate, Cond.initialized RX2, Cond.code yX2_forwardRate cX2_forwardRate 2 (some .int), Cond.fieldLink RX2 9 "Forwardroll$Currency" "spotRate" "I", Cond.methodLink RX2 18 yX2_laterRate, Cond.instanceMethod yX2_laterRate, Cond.selects RX2 yX2_laterRate yX2_laterRate, Cond.code yX2_laterRate cX2_laterRate 3 (some .int), Cond.fieldLink RX2 22 "Forwardroll$Currency" "points" "I"]
def wsX5_roll_r3 : List Cond := [Cond.methodLink RX2 25 Lib.Math.max.name, Cond.static Lib.Math.max.name, Cond.initialized "java/lang/Math", Cond.code Lib.Math.max.name Lib.Math.max.code 2 (some .int), Cond.methodLink RX4 45 yX4_gainAt, Cond.instanceMethod yX4_gainAt, Cond.selects RX4 yX4_gainAt yX4_gainAt, Cond.code yX4_gainAt cX4_gainAt 4 (some .long), Cond.fieldLink RX4 23 "Forwardroll$Deal" "amountLeft" "I", Cond.fieldLink RX4 27 "Forwardroll$Deal" "agreedRate" "I", Cond.fieldLink RX4 19 "Forwardroll$Deal" "buys" "Z", Cond.static yX5_homeAmount, Cond.code yX5_homeAmount cX5_homeAmount 2 (some .long), Cond.constantLong RX5 224 (10000), Cond.methodLink RX5 113 yX1_nextBusinessDay, Cond.instanceMethod yX1_nextBusinessDay, Cond.selects RX1 yX1_nextBusinessDay yX1_nextBusinessDay, Cond.initialized RX1, Cond.code yX1_nextBusinessDay cX1_nextBusinessDay 2 (some .int), Cond.fieldLink RX1 19 "Forwardroll$Calendar" "today" "I", Cond.methodLink RX1 23 yX1_isBusinessDay, Cond.instanceMethod yX1_isBusinessDay, Cond.selects RX1 yX1_isBusinessDay yX1_isBusinessDay, Cond.code yX1_isBusinessDay cX1_isBusinessDay 3 (some .boolean)]
def wsX5_roll_r4 : List Cond := [Cond.fieldLink RX1 9 "Forwardroll$Calendar" "holidays" "[Z", Cond.methodLink RX5 132 yX3_book, Cond.instanceMethod yX3_book, Cond.selects RX3 yX3_book yX3_book, Cond.initialized RX3, Cond.code yX3_book cX3_book 6 none, Cond.fieldLink RX3 18 "Forwardroll$Customer" "netAmounts" "[LForwardroll$Amounts;", Cond.classLink RX3 16 RX0, Cond.instantiable RX0 1, Cond.initialized RX0, Cond.instanceMethod yX0_init, Cond.code yX0_init cX0_init 1 none, Cond.methodLink RX0 3 objectInit, Cond.instanceMethod objectInit, Cond.code objectInit ⟨#[0xb1]⟩ 1 none, Cond.arrayClass .long, Cond.fieldLink RX0 9 "Forwardroll$Amounts" "byMoney" "[J", Cond.methodLink RX3 31 yX0_add, Cond.instanceMethod yX0_add, Cond.selects RX0 yX0_add yX0_add, Cond.code yX0_add cX0_add 4 none, Cond.methodLink RX5 149 yX4_moveWindow, Cond.instanceMethod yX4_moveWindow, Cond.selects RX4 yX4_moveWindow yX4_moveWindow]
def wsX5_roll_r5 : List Cond := [Cond.code yX4_moveWindow cX4_moveWindow 2 none, Cond.fieldLink RX4 30 "Forwardroll$Deal" "firstDay" "I", Cond.methodLink RX5 152 yX4_marketRate, Cond.methodLink RX5 158 yX2_laterRate]
def wsX5_roll : List Cond := .code yX5_roll cX5_roll 5 (some .int) :: ((wsX5_roll_r1 ++ (wsX5_roll_r2 ++ (wsX5_roll_r3 ++ (wsX5_roll_r4 ++ wsX5_roll_r5)))) ++ wsX40 ++ wsX50 ++ wsX10 ++ wsX20 ++ wsX30 ++ wsX00 ++ (vx_atS RX5 61 "java/lang/IllegalStateException" ["java/lang/RuntimeException", "java/lang/Exception"]).filter goodWord ++ (vx_atS RX5 201 "java/lang/IndexOutOfBoundsException" ["java/lang/RuntimeException", "java/lang/Exception"]).filter goodWord ++ (vx_atS RX5 210 "java/lang/IllegalArgumentException" ["java/lang/RuntimeException", "java/lang/Exception"]).filter goodWord)
def wsX5_closeOut_r1 : List Cond := [Cond.methodLink RX5 99 yX5_dealNumbered, Cond.instanceMethod yX5_dealNumbered, Cond.selects RX5 yX5_dealNumbered yX5_dealNumbered, Cond.initialized RX5, Cond.code yX5_dealNumbered cX5_dealNumbered 3 (some (.object "Forwardroll$Deal")), Cond.classLink RX5 197 "java/lang/IndexOutOfBoundsException", Cond.initialized "java/lang/IndexOutOfBoundsException", Cond.fieldLink RX5 34 "Forwardroll" "deals" "[LForwardroll$Deal;", Cond.methodLink RX5 84 yX5_isIndex, Cond.static yX5_isIndex, Cond.code yX5_isIndex cX5_isIndex 2 (some .boolean), Cond.methodLink RX5 136 yX5_requireLeft, Cond.static yX5_requireLeft, Cond.code yX5_requireLeft cX5_requireLeft 1 none, Cond.classLink RX5 57 "java/lang/IllegalStateException", Cond.initialized "java/lang/IllegalStateException", Cond.methodLink RX5 145 yX5_bookGain, Cond.instanceMethod yX5_bookGain, Cond.selects RX5 yX5_bookGain yX5_bookGain, Cond.code yX5_bookGain cX5_bookGain 4 (some .long), Cond.fieldLink RX5 12 "Forwardroll" "calendar" "LForwardroll$Calendar;", Cond.methodLink RX5 165 yX4_marketGain, Cond.instanceMethod yX4_marketGain, Cond.selects RX4 yX4_marketGain yX4_marketGain]
def wsX5_closeOut_r2 : List Cond := [Cond.initialized RX4, Cond.code yX4_marketGain cX4_marketGain 2 (some .long), Cond.methodLink RX4 42 yX4_marketRate, Cond.instanceMethod yX4_marketRate, Cond.selects RX4 yX4_marketRate yX4_marketRate, Cond.code yX4_marketRate cX4_marketRate 2 (some .int), Cond.fieldLink RX4 15 "Forwardroll$Deal" "currency" "LForwardroll$Currency;", Cond.fieldLink RX4 33 "Forwardroll$Deal" "lastDay" "I", Cond.methodLink RX4 36 yX2_forwardRate, Cond.instanceMethod yX2_forwardRate, Cond.selects RX2 yX2_forwardRate yX2_forwardRate, Cond.initialized RX2, Cond.code yX2_forwardRate cX2_forwardRate 2 (some .int), Cond.fieldLink RX2 9 "Forwardroll$Currency" "spotRate" "I", Cond.methodLink RX2 18 yX2_laterRate, Cond.instanceMethod yX2_laterRate, Cond.selects RX2 yX2_laterRate yX2_laterRate, Cond.code yX2_laterRate cX2_laterRate 3 (some .int), Cond.fieldLink RX2 22 "Forwardroll$Currency" "points" "I", Cond.methodLink RX2 25 Lib.Math.max.name, Cond.static Lib.Math.max.name, Cond.initialized "java/lang/Math", Cond.code Lib.Math.max.name Lib.Math.max.code 2 (some .int), Cond.methodLink RX4 45 yX4_gainAt]
def wsX5_closeOut_r3 : List Cond := [Cond.instanceMethod yX4_gainAt, Cond.selects RX4 yX4_gainAt yX4_gainAt, Cond.code yX4_gainAt cX4_gainAt 4 (some .long), Cond.fieldLink RX4 23 "Forwardroll$Deal" "amountLeft" "I", Cond.fieldLink RX4 27 "Forwardroll$Deal" "agreedRate" "I", Cond.fieldLink RX4 19 "Forwardroll$Deal" "buys" "Z", Cond.static yX5_homeAmount, Cond.code yX5_homeAmount cX5_homeAmount 2 (some .long), Cond.constantLong RX5 224 (10000), Cond.methodLink RX5 113 yX1_nextBusinessDay, Cond.instanceMethod yX1_nextBusinessDay, Cond.selects RX1 yX1_nextBusinessDay yX1_nextBusinessDay, Cond.initialized RX1, Cond.code yX1_nextBusinessDay cX1_nextBusinessDay 2 (some .int), Cond.fieldLink RX1 19 "Forwardroll$Calendar" "today" "I", Cond.methodLink RX1 23 yX1_isBusinessDay, Cond.instanceMethod yX1_isBusinessDay, Cond.selects RX1 yX1_isBusinessDay yX1_isBusinessDay, Cond.code yX1_isBusinessDay cX1_isBusinessDay 3 (some .boolean), Cond.fieldLink RX1 9 "Forwardroll$Calendar" "holidays" "[Z", Cond.methodLink RX5 132 yX3_book, Cond.instanceMethod yX3_book, Cond.selects RX3 yX3_book yX3_book, Cond.initialized RX3]
def wsX5_closeOut_r4 : List Cond := [Cond.code yX3_book cX3_book 6 none, Cond.fieldLink RX3 18 "Forwardroll$Customer" "netAmounts" "[LForwardroll$Amounts;", Cond.classLink RX3 16 RX0, Cond.instantiable RX0 1, Cond.initialized RX0, Cond.instanceMethod yX0_init, Cond.code yX0_init cX0_init 1 none, Cond.methodLink RX0 3 objectInit, Cond.instanceMethod objectInit, Cond.code objectInit ⟨#[0xb1]⟩ 1 none, Cond.arrayClass .long, Cond.fieldLink RX0 9 "Forwardroll$Amounts" "byMoney" "[J", Cond.methodLink RX3 31 yX0_add, Cond.instanceMethod yX0_add, Cond.selects RX0 yX0_add yX0_add, Cond.code yX0_add cX0_add 4 none]
def wsX5_closeOut : List Cond := .code yX5_closeOut cX5_closeOut 5 (some .long) :: ((wsX5_closeOut_r1 ++ (wsX5_closeOut_r2 ++ (wsX5_closeOut_r3 ++ wsX5_closeOut_r4))) ++ wsX40 ++ wsX50 ++ wsX10 ++ wsX20 ++ wsX30 ++ wsX00 ++ (vx_atS RX5 201 "java/lang/IndexOutOfBoundsException" ["java/lang/RuntimeException", "java/lang/Exception"]).filter goodWord ++ (vx_atS RX5 61 "java/lang/IllegalStateException" ["java/lang/RuntimeException", "java/lang/Exception"]).filter goodWord)
def wsX5_left : List Cond := .code yX5_left cX5_left 2 (some .int) :: ([.methodLink RX5 99 yX5_dealNumbered, .instanceMethod yX5_dealNumbered, .selects RX5 yX5_dealNumbered yX5_dealNumbered, .initialized RX5, .code yX5_dealNumbered cX5_dealNumbered 3 (some (.object "Forwardroll$Deal")), .classLink RX5 197 "java/lang/IndexOutOfBoundsException", .initialized "java/lang/IndexOutOfBoundsException", .fieldLink RX5 34 "Forwardroll" "deals" "[LForwardroll$Deal;", .methodLink RX5 84 yX5_isIndex, .static yX5_isIndex, .code yX5_isIndex cX5_isIndex 2 (some .boolean)] ++ wsX40 ++ wsX50 ++ (vx_atS RX5 201 "java/lang/IndexOutOfBoundsException" ["java/lang/RuntimeException", "java/lang/Exception"]).filter goodWord)
def wsX5_rate : List Cond := .code yX5_rate cX5_rate 2 (some .int) :: ([.methodLink RX5 99 yX5_dealNumbered, .instanceMethod yX5_dealNumbered, .selects RX5 yX5_dealNumbered yX5_dealNumbered, .initialized RX5, .code yX5_dealNumbered cX5_dealNumbered 3 (some (.object "Forwardroll$Deal")), .classLink RX5 197 "java/lang/IndexOutOfBoundsException", .initialized "java/lang/IndexOutOfBoundsException", .fieldLink RX5 34 "Forwardroll" "deals" "[LForwardroll$Deal;", .methodLink RX5 84 yX5_isIndex, .static yX5_isIndex, .code yX5_isIndex cX5_isIndex 2 (some .boolean)] ++ wsX40 ++ wsX50 ++ (vx_atS RX5 201 "java/lang/IndexOutOfBoundsException" ["java/lang/RuntimeException", "java/lang/Exception"]).filter goodWord)
def wsX5_window : List Cond := .code yX5_window cX5_window 3 (some .int) :: ([.methodLink RX5 99 yX5_dealNumbered, .instanceMethod yX5_dealNumbered, .selects RX5 yX5_dealNumbered yX5_dealNumbered, .initialized RX5, .code yX5_dealNumbered cX5_dealNumbered 3 (some (.object "Forwardroll$Deal")), .classLink RX5 197 "java/lang/IndexOutOfBoundsException", .initialized "java/lang/IndexOutOfBoundsException", .fieldLink RX5 34 "Forwardroll" "deals" "[LForwardroll$Deal;", .methodLink RX5 84 yX5_isIndex, .static yX5_isIndex, .code yX5_isIndex cX5_isIndex 2 (some .boolean)] ++ wsX40 ++ wsX50 ++ (vx_atS RX5 201 "java/lang/IndexOutOfBoundsException" ["java/lang/RuntimeException", "java/lang/Exception"]).filter goodWord)
def wsX5_gain_r1 : List Cond := [Cond.fieldLink RX5 12 "Forwardroll" "calendar" "LForwardroll$Calendar;", Cond.methodLink RX5 99 yX5_dealNumbered, Cond.instanceMethod yX5_dealNumbered, Cond.selects RX5 yX5_dealNumbered yX5_dealNumbered, Cond.initialized RX5, Cond.code yX5_dealNumbered cX5_dealNumbered 3 (some (.object "Forwardroll$Deal")), Cond.classLink RX5 197 "java/lang/IndexOutOfBoundsException", Cond.initialized "java/lang/IndexOutOfBoundsException", Cond.fieldLink RX5 34 "Forwardroll" "deals" "[LForwardroll$Deal;", Cond.methodLink RX5 84 yX5_isIndex, Cond.static yX5_isIndex, Cond.code yX5_isIndex cX5_isIndex 2 (some .boolean), Cond.methodLink RX5 165 yX4_marketGain, Cond.instanceMethod yX4_marketGain, Cond.selects RX4 yX4_marketGain yX4_marketGain, Cond.initialized RX4, Cond.code yX4_marketGain cX4_marketGain 2 (some .long), Cond.methodLink RX4 42 yX4_marketRate, Cond.instanceMethod yX4_marketRate, Cond.selects RX4 yX4_marketRate yX4_marketRate, Cond.code yX4_marketRate cX4_marketRate 2 (some .int), Cond.fieldLink RX4 15 "Forwardroll$Deal" "currency" "LForwardroll$Currency;", Cond.fieldLink RX4 33 "Forwardroll$Deal" "lastDay" "I", Cond.methodLink RX4 36 yX2_forwardRate]
def wsX5_gain_r2 : List Cond := [Cond.instanceMethod yX2_forwardRate, Cond.selects RX2 yX2_forwardRate yX2_forwardRate, Cond.initialized RX2, Cond.code yX2_forwardRate cX2_forwardRate 2 (some .int), Cond.fieldLink RX2 9 "Forwardroll$Currency" "spotRate" "I", Cond.methodLink RX2 18 yX2_laterRate, Cond.instanceMethod yX2_laterRate, Cond.selects RX2 yX2_laterRate yX2_laterRate, Cond.code yX2_laterRate cX2_laterRate 3 (some .int), Cond.fieldLink RX2 22 "Forwardroll$Currency" "points" "I", Cond.methodLink RX2 25 Lib.Math.max.name, Cond.static Lib.Math.max.name, Cond.initialized "java/lang/Math", Cond.code Lib.Math.max.name Lib.Math.max.code 2 (some .int), Cond.methodLink RX4 45 yX4_gainAt, Cond.instanceMethod yX4_gainAt, Cond.selects RX4 yX4_gainAt yX4_gainAt, Cond.code yX4_gainAt cX4_gainAt 4 (some .long), Cond.fieldLink RX4 23 "Forwardroll$Deal" "amountLeft" "I", Cond.fieldLink RX4 27 "Forwardroll$Deal" "agreedRate" "I", Cond.fieldLink RX4 19 "Forwardroll$Deal" "buys" "Z", Cond.static yX5_homeAmount, Cond.code yX5_homeAmount cX5_homeAmount 2 (some .long), Cond.constantLong RX5 224 (10000)]
def wsX5_gain : List Cond := .code yX5_gain cX5_gain 2 (some .long) :: ((wsX5_gain_r1 ++ wsX5_gain_r2) ++ wsX50 ++ wsX10 ++ wsX40 ++ wsX20 ++ (vx_atS RX5 201 "java/lang/IndexOutOfBoundsException" ["java/lang/RuntimeException", "java/lang/Exception"]).filter goodWord)
def wsX5_exposure_r1 : List Cond := [Cond.methodLink RX5 68 yX5_customerNumbered, Cond.instanceMethod yX5_customerNumbered, Cond.selects RX5 yX5_customerNumbered yX5_customerNumbered, Cond.initialized RX5, Cond.code yX5_customerNumbered cX5_customerNumbered 3 (some (.object "Forwardroll$Customer")), Cond.classLink RX5 197 "java/lang/IndexOutOfBoundsException", Cond.initialized "java/lang/IndexOutOfBoundsException", Cond.fieldLink RX5 27 "Forwardroll" "customers" "[LForwardroll$Customer;", Cond.methodLink RX5 84 yX5_isIndex, Cond.static yX5_isIndex, Cond.code yX5_isIndex cX5_isIndex 2 (some .boolean), Cond.methodLink RX5 169 yX5_lossOfAll, Cond.instanceMethod yX5_lossOfAll, Cond.selects RX5 yX5_lossOfAll yX5_lossOfAll, Cond.code yX5_lossOfAll cX5_lossOfAll 9 (some .long), Cond.fieldLink RX5 34 "Forwardroll" "deals" "[LForwardroll$Deal;", Cond.fieldLink RX5 12 "Forwardroll" "calendar" "LForwardroll$Calendar;", Cond.methodLink RX5 216 yX4_shiftedLoss, Cond.instanceMethod yX4_shiftedLoss, Cond.selects RX4 yX4_shiftedLoss yX4_shiftedLoss, Cond.initialized RX4, Cond.code yX4_shiftedLoss cX4_shiftedLoss 4 (some .long), Cond.methodLink RX4 49 Lib.Math.max.name, Cond.static Lib.Math.max.name]
def wsX5_exposure_r2 : List Cond := [Cond.initialized "java/lang/Math", Cond.code Lib.Math.max.name Lib.Math.max.code 2 (some .int), Cond.methodLink RX4 42 yX4_marketRate, Cond.instanceMethod yX4_marketRate, Cond.selects RX4 yX4_marketRate yX4_marketRate, Cond.code yX4_marketRate cX4_marketRate 2 (some .int), Cond.fieldLink RX4 15 "Forwardroll$Deal" "currency" "LForwardroll$Currency;", Cond.fieldLink RX4 33 "Forwardroll$Deal" "lastDay" "I", Cond.methodLink RX4 36 yX2_forwardRate, Cond.instanceMethod yX2_forwardRate, Cond.selects RX2 yX2_forwardRate yX2_forwardRate, Cond.initialized RX2, Cond.code yX2_forwardRate cX2_forwardRate 2 (some .int), Cond.fieldLink RX2 9 "Forwardroll$Currency" "spotRate" "I", Cond.methodLink RX2 18 yX2_laterRate, Cond.instanceMethod yX2_laterRate, Cond.selects RX2 yX2_laterRate yX2_laterRate, Cond.code yX2_laterRate cX2_laterRate 3 (some .int), Cond.fieldLink RX2 22 "Forwardroll$Currency" "points" "I", Cond.methodLink RX2 25 Lib.Math.max.name, Cond.methodLink RX4 45 yX4_gainAt, Cond.instanceMethod yX4_gainAt, Cond.selects RX4 yX4_gainAt yX4_gainAt, Cond.code yX4_gainAt cX4_gainAt 4 (some .long)]
def wsX5_exposure_r3 : List Cond := [Cond.fieldLink RX4 23 "Forwardroll$Deal" "amountLeft" "I", Cond.fieldLink RX4 27 "Forwardroll$Deal" "agreedRate" "I", Cond.fieldLink RX4 19 "Forwardroll$Deal" "buys" "Z", Cond.static yX5_homeAmount, Cond.code yX5_homeAmount cX5_homeAmount 2 (some .long), Cond.constantLong RX5 224 (10000), Cond.methodLink RX5 173 yX5_worseLoss, Cond.static yX5_worseLoss, Cond.code yX5_worseLoss cX5_worseLoss 4 (some .long), Cond.methodLink RX5 219 Lib.MathLoose.max_long.x, Cond.static Lib.MathLoose.max_long.x, Cond.code Lib.MathLoose.max_long.x Lib.MathLoose.max_long.code 4 (some .long)]
def wsX5_exposure : List Cond := .code yX5_exposure cX5_exposure 3 (some .long) :: ((wsX5_exposure_r1 ++ (wsX5_exposure_r2 ++ wsX5_exposure_r3)) ++ wsX50 ++ wsX40 ++ wsX10 ++ wsX20 ++ (vx_atS RX5 201 "java/lang/IndexOutOfBoundsException" ["java/lang/RuntimeException", "java/lang/Exception"]).filter goodWord)
def wsX5_settlementDay : List Cond := .code yX5_settlementDay cX5_settlementDay 1 (some .int) :: ([.fieldLink RX5 12 "Forwardroll" "calendar" "LForwardroll$Calendar;", .methodLink RX5 113 yX1_nextBusinessDay, .instanceMethod yX1_nextBusinessDay, .selects RX1 yX1_nextBusinessDay yX1_nextBusinessDay, .initialized RX1, .code yX1_nextBusinessDay cX1_nextBusinessDay 2 (some .int), .fieldLink RX1 19 "Forwardroll$Calendar" "today" "I", .methodLink RX1 23 yX1_isBusinessDay, .instanceMethod yX1_isBusinessDay, .selects RX1 yX1_isBusinessDay yX1_isBusinessDay, .code yX1_isBusinessDay cX1_isBusinessDay 3 (some .boolean), .fieldLink RX1 9 "Forwardroll$Calendar" "holidays" "[Z", .static yX5_isIndex, .initialized RX5, .code yX5_isIndex cX5_isIndex 2 (some .boolean)] ++ wsX50 ++ wsX10)
def wsX5_due_r1 : List Cond := [Cond.fieldLink RX5 12 "Forwardroll" "calendar" "LForwardroll$Calendar;", Cond.methodLink RX5 68 yX5_customerNumbered, Cond.instanceMethod yX5_customerNumbered, Cond.selects RX5 yX5_customerNumbered yX5_customerNumbered, Cond.initialized RX5, Cond.code yX5_customerNumbered cX5_customerNumbered 3 (some (.object "Forwardroll$Customer")), Cond.classLink RX5 197 "java/lang/IndexOutOfBoundsException", Cond.initialized "java/lang/IndexOutOfBoundsException", Cond.fieldLink RX5 27 "Forwardroll" "customers" "[LForwardroll$Customer;", Cond.methodLink RX5 84 yX5_isIndex, Cond.static yX5_isIndex, Cond.code yX5_isIndex cX5_isIndex 2 (some .boolean), Cond.methodLink RX5 43 yX5_requireRange, Cond.static yX5_requireRange, Cond.code yX5_requireRange cX5_requireRange 3 none, Cond.classLink RX5 206 "java/lang/IllegalArgumentException", Cond.initialized "java/lang/IllegalArgumentException", Cond.methodLink RX5 177 yX3_netAmount, Cond.instanceMethod yX3_netAmount, Cond.selects RX3 yX3_netAmount yX3_netAmount, Cond.initialized RX3, Cond.code yX3_netAmount cX3_netAmount 4 (some .long), Cond.methodLink RX3 35 yX3_netAmountsOf, Cond.instanceMethod yX3_netAmountsOf]
def wsX5_due_r2 : List Cond := [Cond.selects RX3 yX3_netAmountsOf yX3_netAmountsOf, Cond.code yX3_netAmountsOf cX3_netAmountsOf 2 (some (.object "Forwardroll$Amounts")), Cond.fieldLink RX3 18 "Forwardroll$Customer" "netAmounts" "[LForwardroll$Amounts;", Cond.methodLink RX3 39 yX0_amountOf, Cond.instanceMethod yX0_amountOf, Cond.selects RX0 yX0_amountOf yX0_amountOf, Cond.initialized RX0, Cond.code yX0_amountOf cX0_amountOf 2 (some .long), Cond.fieldLink RX0 9 "Forwardroll$Amounts" "byMoney" "[J"]
def wsX5_due : List Cond := .code yX5_due cX5_due 5 (some .long) :: ((wsX5_due_r1 ++ wsX5_due_r2) ++ wsX50 ++ wsX10 ++ wsX30 ++ wsX00 ++ (vx_atS RX5 201 "java/lang/IndexOutOfBoundsException" ["java/lang/RuntimeException", "java/lang/Exception"]).filter goodWord ++ (vx_atS RX5 210 "java/lang/IllegalArgumentException" ["java/lang/RuntimeException", "java/lang/Exception"]).filter goodWord)
def wsX5_balance : List Cond := .code yX5_balance cX5_balance 4 (some .long) :: ([.methodLink RX5 68 yX5_customerNumbered, .instanceMethod yX5_customerNumbered, .selects RX5 yX5_customerNumbered yX5_customerNumbered, .initialized RX5, .code yX5_customerNumbered cX5_customerNumbered 3 (some (.object "Forwardroll$Customer")), .classLink RX5 197 "java/lang/IndexOutOfBoundsException", .initialized "java/lang/IndexOutOfBoundsException", .fieldLink RX5 27 "Forwardroll" "customers" "[LForwardroll$Customer;", .methodLink RX5 84 yX5_isIndex, .static yX5_isIndex, .code yX5_isIndex cX5_isIndex 2 (some .boolean), .methodLink RX5 43 yX5_requireRange, .static yX5_requireRange, .code yX5_requireRange cX5_requireRange 3 none, .classLink RX5 206 "java/lang/IllegalArgumentException", .initialized "java/lang/IllegalArgumentException", .methodLink RX5 184 yX0_amountOf, .instanceMethod yX0_amountOf, .selects RX0 yX0_amountOf yX0_amountOf, .initialized RX0, .code yX0_amountOf cX0_amountOf 2 (some .long), .fieldLink RX0 9 "Forwardroll$Amounts" "byMoney" "[J"] ++ wsX30 ++ wsX50 ++ wsX00 ++ (vx_atS RX5 201 "java/lang/IndexOutOfBoundsException" ["java/lang/RuntimeException", "java/lang/Exception"]).filter goodWord ++ (vx_atS RX5 210 "java/lang/IllegalArgumentException" ["java/lang/RuntimeException", "java/lang/Exception"]).filter goodWord)
def wsX5_endDealsOfToday_r1 : List Cond := [Cond.fieldLink RX5 34 "Forwardroll" "deals" "[LForwardroll$Deal;", Cond.fieldLink RX5 12 "Forwardroll" "calendar" "LForwardroll$Calendar;", Cond.methodLink RX5 145 yX5_bookGain, Cond.instanceMethod yX5_bookGain, Cond.selects RX5 yX5_bookGain yX5_bookGain, Cond.initialized RX5, Cond.code yX5_bookGain cX5_bookGain 4 (some .long), Cond.methodLink RX5 165 yX4_marketGain, Cond.instanceMethod yX4_marketGain, Cond.selects RX4 yX4_marketGain yX4_marketGain, Cond.initialized RX4, Cond.code yX4_marketGain cX4_marketGain 2 (some .long), Cond.methodLink RX4 42 yX4_marketRate, Cond.instanceMethod yX4_marketRate, Cond.selects RX4 yX4_marketRate yX4_marketRate, Cond.code yX4_marketRate cX4_marketRate 2 (some .int), Cond.fieldLink RX4 15 "Forwardroll$Deal" "currency" "LForwardroll$Currency;", Cond.fieldLink RX4 33 "Forwardroll$Deal" "lastDay" "I", Cond.methodLink RX4 36 yX2_forwardRate, Cond.instanceMethod yX2_forwardRate, Cond.selects RX2 yX2_forwardRate yX2_forwardRate, Cond.initialized RX2, Cond.code yX2_forwardRate cX2_forwardRate 2 (some .int), Cond.fieldLink RX2 9 "Forwardroll$Currency" "spotRate" "I"]
def wsX5_endDealsOfToday_r2 : List Cond := [Cond.methodLink RX2 18 yX2_laterRate, Cond.instanceMethod yX2_laterRate, Cond.selects RX2 yX2_laterRate yX2_laterRate, Cond.code yX2_laterRate cX2_laterRate 3 (some .int), Cond.fieldLink RX2 22 "Forwardroll$Currency" "points" "I", Cond.methodLink RX2 25 Lib.Math.max.name, Cond.static Lib.Math.max.name, Cond.initialized "java/lang/Math", Cond.code Lib.Math.max.name Lib.Math.max.code 2 (some .int), Cond.methodLink RX4 45 yX4_gainAt, Cond.instanceMethod yX4_gainAt, Cond.selects RX4 yX4_gainAt yX4_gainAt, Cond.code yX4_gainAt cX4_gainAt 4 (some .long), Cond.fieldLink RX4 23 "Forwardroll$Deal" "amountLeft" "I", Cond.fieldLink RX4 27 "Forwardroll$Deal" "agreedRate" "I", Cond.fieldLink RX4 19 "Forwardroll$Deal" "buys" "Z", Cond.static yX5_homeAmount, Cond.code yX5_homeAmount cX5_homeAmount 2 (some .long), Cond.constantLong RX5 224 (10000), Cond.methodLink RX5 113 yX1_nextBusinessDay, Cond.instanceMethod yX1_nextBusinessDay, Cond.selects RX1 yX1_nextBusinessDay yX1_nextBusinessDay, Cond.initialized RX1, Cond.code yX1_nextBusinessDay cX1_nextBusinessDay 2 (some .int)]
def wsX5_endDealsOfToday_r3 : List Cond := [Cond.fieldLink RX1 19 "Forwardroll$Calendar" "today" "I", Cond.methodLink RX1 23 yX1_isBusinessDay, Cond.instanceMethod yX1_isBusinessDay, Cond.selects RX1 yX1_isBusinessDay yX1_isBusinessDay, Cond.code yX1_isBusinessDay cX1_isBusinessDay 3 (some .boolean), Cond.fieldLink RX1 9 "Forwardroll$Calendar" "holidays" "[Z", Cond.static yX5_isIndex, Cond.code yX5_isIndex cX5_isIndex 2 (some .boolean), Cond.methodLink RX5 132 yX3_book, Cond.instanceMethod yX3_book, Cond.selects RX3 yX3_book yX3_book, Cond.initialized RX3, Cond.code yX3_book cX3_book 6 none, Cond.fieldLink RX3 18 "Forwardroll$Customer" "netAmounts" "[LForwardroll$Amounts;", Cond.classLink RX3 16 RX0, Cond.instantiable RX0 1, Cond.initialized RX0, Cond.instanceMethod yX0_init, Cond.code yX0_init cX0_init 1 none, Cond.methodLink RX0 3 objectInit, Cond.instanceMethod objectInit, Cond.code objectInit ⟨#[0xb1]⟩ 1 none, Cond.arrayClass .long, Cond.fieldLink RX0 9 "Forwardroll$Amounts" "byMoney" "[J"]
def wsX5_endDealsOfToday_r4 : List Cond := [Cond.methodLink RX3 31 yX0_add, Cond.instanceMethod yX0_add, Cond.selects RX0 yX0_add yX0_add, Cond.code yX0_add cX0_add 4 none]
def wsX5_endDealsOfToday : List Cond := .code yX5_endDealsOfToday cX5_endDealsOfToday 6 (some .int) :: ((wsX5_endDealsOfToday_r1 ++ (wsX5_endDealsOfToday_r2 ++ (wsX5_endDealsOfToday_r3 ++ wsX5_endDealsOfToday_r4))) ++ wsX50 ++ wsX40 ++ wsX10 ++ wsX20 ++ wsX30 ++ wsX00)
def wsX5_settleAll_r1 : List Cond := [Cond.fieldLink RX5 27 "Forwardroll" "customers" "[LForwardroll$Customer;", Cond.methodLink RX5 213 yX3_settle, Cond.instanceMethod yX3_settle, Cond.selects RX3 yX3_settle yX3_settle, Cond.initialized RX3, Cond.code yX3_settle cX3_settle 3 none, Cond.fieldLink RX3 23 "Forwardroll$Customer" "balances" "LForwardroll$Amounts;", Cond.methodLink RX3 35 yX3_netAmountsOf, Cond.instanceMethod yX3_netAmountsOf, Cond.selects RX3 yX3_netAmountsOf yX3_netAmountsOf, Cond.code yX3_netAmountsOf cX3_netAmountsOf 2 (some (.object "Forwardroll$Amounts")), Cond.fieldLink RX3 18 "Forwardroll$Customer" "netAmounts" "[LForwardroll$Amounts;", Cond.static yX5_isIndex, Cond.initialized RX5, Cond.code yX5_isIndex cX5_isIndex 2 (some .boolean), Cond.methodLink RX3 43 yX0_addAll, Cond.instanceMethod yX0_addAll, Cond.selects RX0 yX0_addAll yX0_addAll, Cond.initialized RX0, Cond.code yX0_addAll cX0_addAll 3 none, Cond.methodLink RX0 19 yX0_amountOf, Cond.instanceMethod yX0_amountOf, Cond.selects RX0 yX0_amountOf yX0_amountOf, Cond.code yX0_amountOf cX0_amountOf 2 (some .long)]
def wsX5_settleAll_r2 : List Cond := [Cond.fieldLink RX0 9 "Forwardroll$Amounts" "byMoney" "[J", Cond.methodLink RX0 23 yX0_add, Cond.instanceMethod yX0_add, Cond.selects RX0 yX0_add yX0_add, Cond.code yX0_add cX0_add 4 none]
def wsX5_settleAll : List Cond := .code yX5_settleAll cX5_settleAll 6 none :: ((wsX5_settleAll_r1 ++ wsX5_settleAll_r2) ++ wsX50 ++ wsX30 ++ wsX00)
def wsX5_pass_r1 : List Cond := [Cond.classLink RX5 57 "java/lang/IllegalStateException", Cond.initialized "java/lang/IllegalStateException", Cond.fieldLink RX5 12 "Forwardroll" "calendar" "LForwardroll$Calendar;", Cond.methodLink RX5 43 yX5_requireRange, Cond.static yX5_requireRange, Cond.initialized RX5, Cond.code yX5_requireRange cX5_requireRange 3 none, Cond.classLink RX5 206 "java/lang/IllegalArgumentException", Cond.initialized "java/lang/IllegalArgumentException", Cond.methodLink RX5 191 yX5_endDealsOfToday, Cond.instanceMethod yX5_endDealsOfToday, Cond.selects RX5 yX5_endDealsOfToday yX5_endDealsOfToday, Cond.code yX5_endDealsOfToday cX5_endDealsOfToday 6 (some .int), Cond.fieldLink RX5 34 "Forwardroll" "deals" "[LForwardroll$Deal;", Cond.methodLink RX5 145 yX5_bookGain, Cond.instanceMethod yX5_bookGain, Cond.selects RX5 yX5_bookGain yX5_bookGain, Cond.code yX5_bookGain cX5_bookGain 4 (some .long), Cond.methodLink RX5 165 yX4_marketGain, Cond.instanceMethod yX4_marketGain, Cond.selects RX4 yX4_marketGain yX4_marketGain, Cond.initialized RX4, Cond.code yX4_marketGain cX4_marketGain 2 (some .long), Cond.methodLink RX4 42 yX4_marketRate]
def wsX5_pass_r2 : List Cond := [Cond.instanceMethod yX4_marketRate, Cond.selects RX4 yX4_marketRate yX4_marketRate, Cond.code yX4_marketRate cX4_marketRate 2 (some .int), Cond.fieldLink RX4 15 "Forwardroll$Deal" "currency" "LForwardroll$Currency;", Cond.fieldLink RX4 33 "Forwardroll$Deal" "lastDay" "I", Cond.methodLink RX4 36 yX2_forwardRate, Cond.instanceMethod yX2_forwardRate, Cond.selects RX2 yX2_forwardRate yX2_forwardRate, Cond.initialized RX2, Cond.code yX2_forwardRate cX2_forwardRate 2 (some .int), Cond.fieldLink RX2 9 "Forwardroll$Currency" "spotRate" "I", Cond.methodLink RX2 18 yX2_laterRate, Cond.instanceMethod yX2_laterRate, Cond.selects RX2 yX2_laterRate yX2_laterRate, Cond.code yX2_laterRate cX2_laterRate 3 (some .int), Cond.fieldLink RX2 22 "Forwardroll$Currency" "points" "I", Cond.methodLink RX2 25 Lib.Math.max.name, Cond.static Lib.Math.max.name, Cond.initialized "java/lang/Math", Cond.code Lib.Math.max.name Lib.Math.max.code 2 (some .int), Cond.methodLink RX4 45 yX4_gainAt, Cond.instanceMethod yX4_gainAt, Cond.selects RX4 yX4_gainAt yX4_gainAt, Cond.code yX4_gainAt cX4_gainAt 4 (some .long)]
def wsX5_pass_r3 : List Cond := [Cond.fieldLink RX4 23 "Forwardroll$Deal" "amountLeft" "I", Cond.fieldLink RX4 27 "Forwardroll$Deal" "agreedRate" "I", Cond.fieldLink RX4 19 "Forwardroll$Deal" "buys" "Z", Cond.static yX5_homeAmount, Cond.code yX5_homeAmount cX5_homeAmount 2 (some .long), Cond.constantLong RX5 224 (10000), Cond.methodLink RX5 113 yX1_nextBusinessDay, Cond.instanceMethod yX1_nextBusinessDay, Cond.selects RX1 yX1_nextBusinessDay yX1_nextBusinessDay, Cond.initialized RX1, Cond.code yX1_nextBusinessDay cX1_nextBusinessDay 2 (some .int), Cond.fieldLink RX1 19 "Forwardroll$Calendar" "today" "I", Cond.methodLink RX1 23 yX1_isBusinessDay, Cond.instanceMethod yX1_isBusinessDay, Cond.selects RX1 yX1_isBusinessDay yX1_isBusinessDay, Cond.code yX1_isBusinessDay cX1_isBusinessDay 3 (some .boolean), Cond.fieldLink RX1 9 "Forwardroll$Calendar" "holidays" "[Z", Cond.static yX5_isIndex, Cond.code yX5_isIndex cX5_isIndex 2 (some .boolean), Cond.methodLink RX5 132 yX3_book, Cond.instanceMethod yX3_book, Cond.selects RX3 yX3_book yX3_book, Cond.initialized RX3, Cond.code yX3_book cX3_book 6 none]
def wsX5_pass_r4 : List Cond := [Cond.fieldLink RX3 18 "Forwardroll$Customer" "netAmounts" "[LForwardroll$Amounts;", Cond.classLink RX3 16 RX0, Cond.instantiable RX0 1, Cond.initialized RX0, Cond.instanceMethod yX0_init, Cond.code yX0_init cX0_init 1 none, Cond.methodLink RX0 3 objectInit, Cond.instanceMethod objectInit, Cond.code objectInit ⟨#[0xb1]⟩ 1 none, Cond.arrayClass .long, Cond.fieldLink RX0 9 "Forwardroll$Amounts" "byMoney" "[J", Cond.methodLink RX3 31 yX0_add, Cond.instanceMethod yX0_add, Cond.selects RX0 yX0_add yX0_add, Cond.code yX0_add cX0_add 4 none, Cond.methodLink RX5 194 yX5_settleAll, Cond.instanceMethod yX5_settleAll, Cond.selects RX5 yX5_settleAll yX5_settleAll, Cond.code yX5_settleAll cX5_settleAll 6 none, Cond.fieldLink RX5 27 "Forwardroll" "customers" "[LForwardroll$Customer;", Cond.methodLink RX5 213 yX3_settle, Cond.instanceMethod yX3_settle, Cond.selects RX3 yX3_settle yX3_settle, Cond.code yX3_settle cX3_settle 3 none]
def wsX5_pass_r5 : List Cond := [Cond.fieldLink RX3 23 "Forwardroll$Customer" "balances" "LForwardroll$Amounts;", Cond.methodLink RX3 35 yX3_netAmountsOf, Cond.instanceMethod yX3_netAmountsOf, Cond.selects RX3 yX3_netAmountsOf yX3_netAmountsOf, Cond.code yX3_netAmountsOf cX3_netAmountsOf 2 (some (.object "Forwardroll$Amounts")), Cond.methodLink RX3 43 yX0_addAll, Cond.instanceMethod yX0_addAll, Cond.selects RX0 yX0_addAll yX0_addAll, Cond.code yX0_addAll cX0_addAll 3 none, Cond.methodLink RX0 19 yX0_amountOf, Cond.instanceMethod yX0_amountOf, Cond.selects RX0 yX0_amountOf yX0_amountOf, Cond.code yX0_amountOf cX0_amountOf 2 (some .long), Cond.methodLink RX0 23 yX0_add]
def wsX5_pass : List Cond := .code yX5_pass cX5_pass 4 (some .int) :: ((wsX5_pass_r1 ++ (wsX5_pass_r2 ++ (wsX5_pass_r3 ++ (wsX5_pass_r4 ++ wsX5_pass_r5)))) ++ wsX50 ++ wsX10 ++ wsX40 ++ wsX20 ++ wsX30 ++ wsX00 ++ (vx_atS RX5 61 "java/lang/IllegalStateException" ["java/lang/RuntimeException", "java/lang/Exception"]).filter goodWord ++ (vx_atS RX5 210 "java/lang/IllegalArgumentException" ["java/lang/RuntimeException", "java/lang/Exception"]).filter goodWord)
def wsX5_today : List Cond := .code yX5_today cX5_today 1 (some .int) :: ([.fieldLink RX5 12 "Forwardroll" "calendar" "LForwardroll$Calendar;"] ++ wsX50 ++ wsX10)
def wsJ9_max_7cf53 : List Cond := .code yJ9_max_7cf53 cJ9_max_7cf53 2 (some .int) :: ([])
def wsJ9_max_f86c9 : List Cond := .code yJ9_max_f86c9 cJ9_max_f86c9 4 (some .long) :: ([])
def wsL_cell : List Cond := .code yL_cell cL_cell 2 (some .int) :: ([.constant RL 7 (1138477045)])
def wsL_low : List Cond := .code yL_low cL_low 2 (some .int) :: ([])
def wsL_setRate_r1 : List Cond := [Cond.classLink RL 14 "java/lang/IndexOutOfBoundsException", Cond.classLink RL 17 "java/lang/IllegalArgumentException", Cond.constant RL 16 (-2000000071), Cond.constant RL 19 (-2000000072), Cond.methodLink RL 8 yX5_setRate, Cond.instanceMethod yX5_setRate, Cond.selects RX5 yX5_setRate yX5_setRate, Cond.initialized RX5, Cond.code yX5_setRate cX5_setRate 5 (some .int), Cond.constant RX5 42 (100000), Cond.methodLink RX5 38 yX5_currencyNumbered, Cond.instanceMethod yX5_currencyNumbered, Cond.selects RX5 yX5_currencyNumbered yX5_currencyNumbered, Cond.code yX5_currencyNumbered cX5_currencyNumbered 3 (some (.object "Forwardroll$Currency")), Cond.classLink RX5 197 "java/lang/IndexOutOfBoundsException", Cond.initialized "java/lang/IndexOutOfBoundsException", Cond.fieldLink RX5 18 "Forwardroll" "currencies" "[LForwardroll$Currency;", Cond.methodLink RX5 84 yX5_isIndex, Cond.static yX5_isIndex, Cond.code yX5_isIndex cX5_isIndex 2 (some .boolean), Cond.methodLink RX5 43 yX5_requireRange, Cond.static yX5_requireRange, Cond.code yX5_requireRange cX5_requireRange 3 none, Cond.classLink RX5 206 "java/lang/IllegalArgumentException"]
def wsL_setRate_r2 : List Cond := [Cond.initialized "java/lang/IllegalArgumentException"]
def wsL_setRate : List Cond := .codeWith yL_setRate cL_setRate 5 (some .int) [(0, 7, 10, 14), (0, 7, 15, 17)] :: ((wsL_setRate_r1 ++ wsL_setRate_r2) ++ wsX20 ++ wsX50 ++ (vx_atS RX5 201 "java/lang/IndexOutOfBoundsException" ["java/lang/RuntimeException", "java/lang/Exception"]).filter goodWord ++ (vx_atS RX5 210 "java/lang/IllegalArgumentException" ["java/lang/RuntimeException", "java/lang/Exception"]).filter goodWord)
def wsL_setPoints : List Cond := .codeWith yL_setPoints cL_setPoints 5 (some .int) [(0, 7, 10, 14), (0, 7, 15, 17)] :: ([.classLink RL 14 "java/lang/IndexOutOfBoundsException", .classLink RL 17 "java/lang/IllegalArgumentException", .constant RL 16 (-2000000071), .constant RL 19 (-2000000072), .methodLink RL 20 yX5_setPoints, .instanceMethod yX5_setPoints, .selects RX5 yX5_setPoints yX5_setPoints, .initialized RX5, .code yX5_setPoints cX5_setPoints 5 (some .int), .methodLink RX5 38 yX5_currencyNumbered, .instanceMethod yX5_currencyNumbered, .selects RX5 yX5_currencyNumbered yX5_currencyNumbered, .code yX5_currencyNumbered cX5_currencyNumbered 3 (some (.object "Forwardroll$Currency")), .classLink RX5 197 "java/lang/IndexOutOfBoundsException", .initialized "java/lang/IndexOutOfBoundsException", .fieldLink RX5 18 "Forwardroll" "currencies" "[LForwardroll$Currency;", .methodLink RX5 84 yX5_isIndex, .static yX5_isIndex, .code yX5_isIndex cX5_isIndex 2 (some .boolean), .methodLink RX5 43 yX5_requireRange, .static yX5_requireRange, .code yX5_requireRange cX5_requireRange 3 none, .classLink RX5 206 "java/lang/IllegalArgumentException", .initialized "java/lang/IllegalArgumentException"] ++ wsX20 ++ wsX50 ++ (vx_atS RX5 201 "java/lang/IndexOutOfBoundsException" ["java/lang/RuntimeException", "java/lang/Exception"]).filter goodWord ++ (vx_atS RX5 210 "java/lang/IllegalArgumentException" ["java/lang/RuntimeException", "java/lang/Exception"]).filter goodWord)
def wsL_toggleHoliday_r1 : List Cond := [Cond.classLink RL 17 "java/lang/IllegalArgumentException", Cond.classLink RL 27 "java/lang/IllegalStateException", Cond.constant RL 19 (-2000000072), Cond.constant RL 29 (-2000000073), Cond.methodLink RL 23 yX5_toggleHoliday, Cond.instanceMethod yX5_toggleHoliday, Cond.selects RX5 yX5_toggleHoliday yX5_toggleHoliday, Cond.initialized RX5, Cond.code yX5_toggleHoliday cX5_toggleHoliday 2 (some .boolean), Cond.classLink RX5 57 "java/lang/IllegalStateException", Cond.initialized "java/lang/IllegalStateException", Cond.fieldLink RX5 12 "Forwardroll" "calendar" "LForwardroll$Calendar;", Cond.methodLink RX5 43 yX5_requireRange, Cond.static yX5_requireRange, Cond.code yX5_requireRange cX5_requireRange 3 none, Cond.classLink RX5 206 "java/lang/IllegalArgumentException", Cond.initialized "java/lang/IllegalArgumentException", Cond.methodLink RX5 64 yX1_flipHoliday, Cond.instanceMethod yX1_flipHoliday, Cond.selects RX1 yX1_flipHoliday yX1_flipHoliday, Cond.initialized RX1, Cond.code yX1_flipHoliday cX1_flipHoliday 2 (some .boolean), Cond.fieldLink RX1 9 "Forwardroll$Calendar" "holidays" "[Z", Cond.static yX5_isIndex]
def wsL_toggleHoliday_r2 : List Cond := [Cond.code yX5_isIndex cX5_isIndex 2 (some .boolean)]
def wsL_toggleHoliday : List Cond := .codeWith yL_toggleHoliday cL_toggleHoliday 4 (some .int) [(0, 6, 9, 17), (0, 6, 13, 27)] :: ((wsL_toggleHoliday_r1 ++ wsL_toggleHoliday_r2) ++ wsX50 ++ wsX10 ++ (vx_atS RX5 61 "java/lang/IllegalStateException" ["java/lang/RuntimeException", "java/lang/Exception"]).filter goodWord ++ (vx_atS RX5 210 "java/lang/IllegalArgumentException" ["java/lang/RuntimeException", "java/lang/Exception"]).filter goodWord)
def wsL_setLimit_r1 : List Cond := [Cond.classLink RL 14 "java/lang/IndexOutOfBoundsException", Cond.classLink RL 17 "java/lang/IllegalArgumentException", Cond.constant RL 16 (-2000000071), Cond.constant RL 19 (-2000000072), Cond.methodLink RL 30 yX5_setLimit, Cond.instanceMethod yX5_setLimit, Cond.selects RX5 yX5_setLimit yX5_setLimit, Cond.initialized RX5, Cond.code yX5_setLimit cX5_setLimit 5 (some .int), Cond.constant RX5 72 (100000000), Cond.methodLink RX5 68 yX5_customerNumbered, Cond.instanceMethod yX5_customerNumbered, Cond.selects RX5 yX5_customerNumbered yX5_customerNumbered, Cond.code yX5_customerNumbered cX5_customerNumbered 3 (some (.object "Forwardroll$Customer")), Cond.classLink RX5 197 "java/lang/IndexOutOfBoundsException", Cond.initialized "java/lang/IndexOutOfBoundsException", Cond.fieldLink RX5 27 "Forwardroll" "customers" "[LForwardroll$Customer;", Cond.methodLink RX5 84 yX5_isIndex, Cond.static yX5_isIndex, Cond.code yX5_isIndex cX5_isIndex 2 (some .boolean), Cond.methodLink RX5 43 yX5_requireRange, Cond.static yX5_requireRange, Cond.code yX5_requireRange cX5_requireRange 3 none, Cond.classLink RX5 206 "java/lang/IllegalArgumentException"]
def wsL_setLimit_r2 : List Cond := [Cond.initialized "java/lang/IllegalArgumentException"]
def wsL_setLimit : List Cond := .codeWith yL_setLimit cL_setLimit 5 (some .int) [(0, 7, 10, 14), (0, 7, 15, 17)] :: ((wsL_setLimit_r1 ++ wsL_setLimit_r2) ++ wsX30 ++ wsX50 ++ (vx_atS RX5 201 "java/lang/IndexOutOfBoundsException" ["java/lang/RuntimeException", "java/lang/Exception"]).filter goodWord ++ (vx_atS RX5 210 "java/lang/IllegalArgumentException" ["java/lang/RuntimeException", "java/lang/Exception"]).filter goodWord)
def wsL_forward_r1 : List Cond := [Cond.classLink RL 14 "java/lang/IndexOutOfBoundsException", Cond.classLink RL 17 "java/lang/IllegalArgumentException", Cond.constant RL 16 (-2000000071), Cond.constant RL 19 (-2000000072), Cond.methodLink RL 33 yX5_forward, Cond.instanceMethod yX5_forward, Cond.selects RX5 yX5_forward yX5_forward, Cond.initialized RX5, Cond.code yX5_forward cX5_forward 4 (some .int), Cond.methodLink RX5 38 yX5_currencyNumbered, Cond.instanceMethod yX5_currencyNumbered, Cond.selects RX5 yX5_currencyNumbered yX5_currencyNumbered, Cond.code yX5_currencyNumbered cX5_currencyNumbered 3 (some (.object "Forwardroll$Currency")), Cond.classLink RX5 197 "java/lang/IndexOutOfBoundsException", Cond.initialized "java/lang/IndexOutOfBoundsException", Cond.fieldLink RX5 18 "Forwardroll" "currencies" "[LForwardroll$Currency;", Cond.methodLink RX5 84 yX5_isIndex, Cond.static yX5_isIndex, Cond.code yX5_isIndex cX5_isIndex 2 (some .boolean), Cond.methodLink RX5 43 yX5_requireRange, Cond.static yX5_requireRange, Cond.code yX5_requireRange cX5_requireRange 3 none, Cond.classLink RX5 206 "java/lang/IllegalArgumentException", Cond.initialized "java/lang/IllegalArgumentException"]
def wsL_forward_r2 : List Cond := [Cond.methodLink RX5 76 yX2_forwardRate, Cond.instanceMethod yX2_forwardRate, Cond.selects RX2 yX2_forwardRate yX2_forwardRate, Cond.initialized RX2, Cond.code yX2_forwardRate cX2_forwardRate 2 (some .int), Cond.fieldLink RX2 9 "Forwardroll$Currency" "spotRate" "I", Cond.methodLink RX2 18 yX2_laterRate, Cond.instanceMethod yX2_laterRate, Cond.selects RX2 yX2_laterRate yX2_laterRate, Cond.code yX2_laterRate cX2_laterRate 3 (some .int), Cond.fieldLink RX2 22 "Forwardroll$Currency" "points" "I", Cond.methodLink RX2 25 Lib.Math.max.name, Cond.static Lib.Math.max.name, Cond.initialized "java/lang/Math", Cond.code Lib.Math.max.name Lib.Math.max.code 2 (some .int)]
def wsL_forward : List Cond := .codeWith yL_forward cL_forward 5 (some .int) [(0, 7, 10, 14), (0, 7, 15, 17)] :: ((wsL_forward_r1 ++ wsL_forward_r2) ++ wsX50 ++ wsX20 ++ (vx_atS RX5 201 "java/lang/IndexOutOfBoundsException" ["java/lang/RuntimeException", "java/lang/Exception"]).filter goodWord ++ (vx_atS RX5 210 "java/lang/IllegalArgumentException" ["java/lang/RuntimeException", "java/lang/Exception"]).filter goodWord)
def wsL_deal_r1 : List Cond := [Cond.classLink RL 14 "java/lang/IndexOutOfBoundsException", Cond.classLink RL 17 "java/lang/IllegalArgumentException", Cond.classLink RL 27 "java/lang/IllegalStateException", Cond.constant RL 16 (-2000000071), Cond.constant RL 19 (-2000000072), Cond.constant RL 29 (-2000000073), Cond.methodLink RL 36 yX5_deal, Cond.instanceMethod yX5_deal, Cond.selects RX5 yX5_deal yX5_deal, Cond.initialized RX5, Cond.code yX5_deal cX5_deal 12 (some .int), Cond.classLink RX5 57 "java/lang/IllegalStateException", Cond.initialized "java/lang/IllegalStateException", Cond.constant RX5 80 (1000000), Cond.fieldLink RX5 81 "Forwardroll" "dealCount" "I", Cond.fieldLink RX5 34 "Forwardroll" "deals" "[LForwardroll$Deal;", Cond.fieldLink RX5 12 "Forwardroll" "calendar" "LForwardroll$Calendar;", Cond.classLink RX5 32 RX4, Cond.instantiable RX4 7, Cond.initialized RX4, Cond.methodLink RX5 68 yX5_customerNumbered, Cond.instanceMethod yX5_customerNumbered, Cond.selects RX5 yX5_customerNumbered yX5_customerNumbered, Cond.code yX5_customerNumbered cX5_customerNumbered 3 (some (.object "Forwardroll$Customer"))]
def wsL_deal_r2 : List Cond := [Cond.classLink RX5 197 "java/lang/IndexOutOfBoundsException", Cond.initialized "java/lang/IndexOutOfBoundsException", Cond.fieldLink RX5 27 "Forwardroll" "customers" "[LForwardroll$Customer;", Cond.methodLink RX5 84 yX5_isIndex, Cond.static yX5_isIndex, Cond.code yX5_isIndex cX5_isIndex 2 (some .boolean), Cond.methodLink RX5 38 yX5_currencyNumbered, Cond.instanceMethod yX5_currencyNumbered, Cond.selects RX5 yX5_currencyNumbered yX5_currencyNumbered, Cond.code yX5_currencyNumbered cX5_currencyNumbered 3 (some (.object "Forwardroll$Currency")), Cond.fieldLink RX5 18 "Forwardroll" "currencies" "[LForwardroll$Currency;", Cond.methodLink RX5 43 yX5_requireRange, Cond.static yX5_requireRange, Cond.code yX5_requireRange cX5_requireRange 3 none, Cond.classLink RX5 206 "java/lang/IllegalArgumentException", Cond.initialized "java/lang/IllegalArgumentException", Cond.methodLink RX5 76 yX2_forwardRate, Cond.instanceMethod yX2_forwardRate, Cond.selects RX2 yX2_forwardRate yX2_forwardRate, Cond.initialized RX2, Cond.code yX2_forwardRate cX2_forwardRate 2 (some .int), Cond.fieldLink RX2 9 "Forwardroll$Currency" "spotRate" "I", Cond.methodLink RX2 18 yX2_laterRate, Cond.instanceMethod yX2_laterRate]
def wsL_deal_r3 : List Cond := [Cond.selects RX2 yX2_laterRate yX2_laterRate, Cond.code yX2_laterRate cX2_laterRate 3 (some .int), Cond.fieldLink RX2 22 "Forwardroll$Currency" "points" "I", Cond.methodLink RX2 25 Lib.Math.max.name, Cond.static Lib.Math.max.name, Cond.initialized "java/lang/Math", Cond.code Lib.Math.max.name Lib.Math.max.code 2 (some .int), Cond.methodLink RX5 90 yX4_init, Cond.instanceMethod yX4_init, Cond.code yX4_init cX4_init 8 none, Cond.methodLink RX4 3 objectInit, Cond.instanceMethod objectInit, Cond.code objectInit ⟨#[0xb1]⟩ 1 none, Cond.fieldLink RX4 9 "Forwardroll$Deal" "customer" "LForwardroll$Customer;", Cond.fieldLink RX4 15 "Forwardroll$Deal" "currency" "LForwardroll$Currency;", Cond.fieldLink RX4 19 "Forwardroll$Deal" "buys" "Z", Cond.fieldLink RX4 23 "Forwardroll$Deal" "amountLeft" "I", Cond.fieldLink RX4 27 "Forwardroll$Deal" "agreedRate" "I", Cond.fieldLink RX4 30 "Forwardroll$Deal" "firstDay" "I", Cond.fieldLink RX4 33 "Forwardroll$Deal" "lastDay" "I", Cond.methodLink RX5 93 yX5_exposureWith, Cond.instanceMethod yX5_exposureWith, Cond.selects RX5 yX5_exposureWith yX5_exposureWith, Cond.code yX5_exposureWith cX5_exposureWith 4 (some .long)]
def wsL_deal_r4 : List Cond := [Cond.methodLink RX5 169 yX5_lossOfAll, Cond.instanceMethod yX5_lossOfAll, Cond.selects RX5 yX5_lossOfAll yX5_lossOfAll, Cond.code yX5_lossOfAll cX5_lossOfAll 9 (some .long), Cond.methodLink RX5 216 yX4_shiftedLoss, Cond.instanceMethod yX4_shiftedLoss, Cond.selects RX4 yX4_shiftedLoss yX4_shiftedLoss, Cond.code yX4_shiftedLoss cX4_shiftedLoss 4 (some .long), Cond.methodLink RX4 49 Lib.Math.max.name, Cond.methodLink RX4 42 yX4_marketRate, Cond.instanceMethod yX4_marketRate, Cond.selects RX4 yX4_marketRate yX4_marketRate, Cond.code yX4_marketRate cX4_marketRate 2 (some .int), Cond.methodLink RX4 36 yX2_forwardRate, Cond.methodLink RX4 45 yX4_gainAt, Cond.instanceMethod yX4_gainAt, Cond.selects RX4 yX4_gainAt yX4_gainAt, Cond.code yX4_gainAt cX4_gainAt 4 (some .long), Cond.static yX5_homeAmount, Cond.code yX5_homeAmount cX5_homeAmount 2 (some .long), Cond.constantLong RX5 224 (10000), Cond.methodLink RX5 173 yX5_worseLoss, Cond.static yX5_worseLoss, Cond.code yX5_worseLoss cX5_worseLoss 4 (some .long)]
def wsL_deal_r5 : List Cond := [Cond.methodLink RX5 219 Lib.MathLoose.max_long.x, Cond.static Lib.MathLoose.max_long.x, Cond.code Lib.MathLoose.max_long.x Lib.MathLoose.max_long.code 4 (some .long)]
def wsL_deal : List Cond := .codeWith yL_deal cL_deal 9 (some .int) [(0, 15, 18, 14), (0, 15, 23, 17), (0, 15, 28, 27)] :: ((wsL_deal_r1 ++ (wsL_deal_r2 ++ (wsL_deal_r3 ++ (wsL_deal_r4 ++ wsL_deal_r5)))) ++ wsX50 ++ wsX10 ++ wsX40 ++ wsX30 ++ wsX20 ++ (vx_atS RX5 61 "java/lang/IllegalStateException" ["java/lang/RuntimeException", "java/lang/Exception"]).filter goodWord ++ (vx_atS RX5 201 "java/lang/IndexOutOfBoundsException" ["java/lang/RuntimeException", "java/lang/Exception"]).filter goodWord ++ (vx_atS RX5 210 "java/lang/IllegalArgumentException" ["java/lang/RuntimeException", "java/lang/Exception"]).filter goodWord)
def wsL_draw_r1 : List Cond := [Cond.classLink RL 14 "java/lang/IndexOutOfBoundsException", Cond.classLink RL 17 "java/lang/IllegalArgumentException", Cond.constant RL 16 (-2000000071), Cond.constant RL 19 (-2000000072), Cond.methodLink RL 40 yX5_draw, Cond.instanceMethod yX5_draw, Cond.selects RX5 yX5_draw yX5_draw, Cond.initialized RX5, Cond.code yX5_draw cX5_draw 8 (some .int), Cond.fieldLink RX5 12 "Forwardroll" "calendar" "LForwardroll$Calendar;", Cond.methodLink RX5 99 yX5_dealNumbered, Cond.instanceMethod yX5_dealNumbered, Cond.selects RX5 yX5_dealNumbered yX5_dealNumbered, Cond.code yX5_dealNumbered cX5_dealNumbered 3 (some (.object "Forwardroll$Deal")), Cond.classLink RX5 197 "java/lang/IndexOutOfBoundsException", Cond.initialized "java/lang/IndexOutOfBoundsException", Cond.fieldLink RX5 34 "Forwardroll" "deals" "[LForwardroll$Deal;", Cond.methodLink RX5 84 yX5_isIndex, Cond.static yX5_isIndex, Cond.code yX5_isIndex cX5_isIndex 2 (some .boolean), Cond.methodLink RX5 43 yX5_requireRange, Cond.static yX5_requireRange, Cond.code yX5_requireRange cX5_requireRange 3 none, Cond.classLink RX5 206 "java/lang/IllegalArgumentException"]
def wsL_draw_r2 : List Cond := [Cond.initialized "java/lang/IllegalArgumentException", Cond.methodLink RX5 106 yX4_drawingRate, Cond.instanceMethod yX4_drawingRate, Cond.selects RX4 yX4_drawingRate yX4_drawingRate, Cond.initialized RX4, Cond.code yX4_drawingRate cX4_drawingRate 2 (some .int), Cond.fieldLink RX4 30 "Forwardroll$Deal" "firstDay" "I", Cond.fieldLink RX4 15 "Forwardroll$Deal" "currency" "LForwardroll$Currency;", Cond.fieldLink RX4 27 "Forwardroll$Deal" "agreedRate" "I", Cond.methodLink RX4 55 yX2_laterRate, Cond.instanceMethod yX2_laterRate, Cond.selects RX2 yX2_laterRate yX2_laterRate, Cond.initialized RX2, Cond.code yX2_laterRate cX2_laterRate 3 (some .int), Cond.fieldLink RX2 22 "Forwardroll$Currency" "points" "I", Cond.methodLink RX2 25 Lib.Math.max.name, Cond.static Lib.Math.max.name, Cond.initialized "java/lang/Math", Cond.code Lib.Math.max.name Lib.Math.max.code 2 (some .int), Cond.methodLink RX5 109 yX5_homeAmount, Cond.static yX5_homeAmount, Cond.code yX5_homeAmount cX5_homeAmount 2 (some .long), Cond.constantLong RX5 224 (10000), Cond.methodLink RX5 113 yX1_nextBusinessDay]
def wsL_draw_r3 : List Cond := [Cond.instanceMethod yX1_nextBusinessDay, Cond.selects RX1 yX1_nextBusinessDay yX1_nextBusinessDay, Cond.initialized RX1, Cond.code yX1_nextBusinessDay cX1_nextBusinessDay 2 (some .int), Cond.fieldLink RX1 19 "Forwardroll$Calendar" "today" "I", Cond.methodLink RX1 23 yX1_isBusinessDay, Cond.instanceMethod yX1_isBusinessDay, Cond.selects RX1 yX1_isBusinessDay yX1_isBusinessDay, Cond.code yX1_isBusinessDay cX1_isBusinessDay 3 (some .boolean), Cond.fieldLink RX1 9 "Forwardroll$Calendar" "holidays" "[Z", Cond.methodLink RX5 132 yX3_book, Cond.instanceMethod yX3_book, Cond.selects RX3 yX3_book yX3_book, Cond.initialized RX3, Cond.code yX3_book cX3_book 6 none, Cond.fieldLink RX3 18 "Forwardroll$Customer" "netAmounts" "[LForwardroll$Amounts;", Cond.classLink RX3 16 RX0, Cond.instantiable RX0 1, Cond.initialized RX0, Cond.instanceMethod yX0_init, Cond.code yX0_init cX0_init 1 none, Cond.methodLink RX0 3 objectInit, Cond.instanceMethod objectInit, Cond.code objectInit ⟨#[0xb1]⟩ 1 none]
def wsL_draw_r4 : List Cond := [Cond.arrayClass .long, Cond.fieldLink RX0 9 "Forwardroll$Amounts" "byMoney" "[J", Cond.methodLink RX3 31 yX0_add, Cond.instanceMethod yX0_add, Cond.selects RX0 yX0_add yX0_add, Cond.code yX0_add cX0_add 4 none]
def wsL_draw : List Cond := .codeWith yL_draw cL_draw 5 (some .int) [(0, 7, 10, 14), (0, 7, 15, 17)] :: ((wsL_draw_r1 ++ (wsL_draw_r2 ++ (wsL_draw_r3 ++ wsL_draw_r4))) ++ wsX40 ++ wsX50 ++ wsX10 ++ wsX20 ++ wsX30 ++ wsX00 ++ (vx_atS RX5 201 "java/lang/IndexOutOfBoundsException" ["java/lang/RuntimeException", "java/lang/Exception"]).filter goodWord ++ (vx_atS RX5 210 "java/lang/IllegalArgumentException" ["java/lang/RuntimeException", "java/lang/Exception"]).filter goodWord)
def wsL_roll_r1 : List Cond := [Cond.classLink RL 14 "java/lang/IndexOutOfBoundsException", Cond.classLink RL 17 "java/lang/IllegalArgumentException", Cond.classLink RL 27 "java/lang/IllegalStateException", Cond.constant RL 16 (-2000000071), Cond.constant RL 19 (-2000000072), Cond.constant RL 29 (-2000000073), Cond.methodLink RL 43 yX5_roll, Cond.instanceMethod yX5_roll, Cond.selects RX5 yX5_roll yX5_roll, Cond.initialized RX5, Cond.code yX5_roll cX5_roll 5 (some .int), Cond.classLink RX5 57 "java/lang/IllegalStateException", Cond.initialized "java/lang/IllegalStateException", Cond.fieldLink RX5 12 "Forwardroll" "calendar" "LForwardroll$Calendar;", Cond.methodLink RX5 99 yX5_dealNumbered, Cond.instanceMethod yX5_dealNumbered, Cond.selects RX5 yX5_dealNumbered yX5_dealNumbered, Cond.code yX5_dealNumbered cX5_dealNumbered 3 (some (.object "Forwardroll$Deal")), Cond.classLink RX5 197 "java/lang/IndexOutOfBoundsException", Cond.initialized "java/lang/IndexOutOfBoundsException", Cond.fieldLink RX5 34 "Forwardroll" "deals" "[LForwardroll$Deal;", Cond.methodLink RX5 84 yX5_isIndex, Cond.static yX5_isIndex, Cond.code yX5_isIndex cX5_isIndex 2 (some .boolean)]
def wsL_roll_r2 : List Cond := [Cond.methodLink RX5 43 yX5_requireRange, Cond.static yX5_requireRange, Cond.code yX5_requireRange cX5_requireRange 3 none, Cond.classLink RX5 206 "java/lang/IllegalArgumentException", Cond.initialized "java/lang/IllegalArgumentException", Cond.methodLink RX5 136 yX5_requireLeft, Cond.static yX5_requireLeft, Cond.code yX5_requireLeft cX5_requireLeft 1 none, Cond.methodLink RX5 145 yX5_bookGain, Cond.instanceMethod yX5_bookGain, Cond.selects RX5 yX5_bookGain yX5_bookGain, Cond.code yX5_bookGain cX5_bookGain 4 (some .long), Cond.methodLink RX5 165 yX4_marketGain, Cond.instanceMethod yX4_marketGain, Cond.selects RX4 yX4_marketGain yX4_marketGain, Cond.initialized RX4, Cond.code yX4_marketGain cX4_marketGain 2 (some .long), Cond.methodLink RX4 42 yX4_marketRate, Cond.instanceMethod yX4_marketRate, Cond.selects RX4 yX4_marketRate yX4_marketRate, Cond.code yX4_marketRate cX4_marketRate 2 (some .int), Cond.fieldLink RX4 15 "Forwardroll$Deal" "currency" "LForwardroll$Currency;", Cond.fieldLink RX4 33 "Forwardroll$Deal" "lastDay" "I", Cond.methodLink RX4 36 yX2_forwardRate]
def wsL_roll_r3 : List Cond := [Cond.instanceMethod yX2_forwardRate, Cond.selects RX2 yX2_forwardRate yX2_forwardRate, Cond.initialized RX2, Cond.code yX2_forwardRate cX2_forwardRate 2 (some .int), Cond.fieldLink RX2 9 "Forwardroll$Currency" "spotRate" "I", Cond.methodLink RX2 18 yX2_laterRate, Cond.instanceMethod yX2_laterRate, Cond.selects RX2 yX2_laterRate yX2_laterRate, Cond.code yX2_laterRate cX2_laterRate 3 (some .int), Cond.fieldLink RX2 22 "Forwardroll$Currency" "points" "I", Cond.methodLink RX2 25 Lib.Math.max.name, Cond.static Lib.Math.max.name, Cond.initialized "java/lang/Math", Cond.code Lib.Math.max.name Lib.Math.max.code 2 (some .int), Cond.methodLink RX4 45 yX4_gainAt, Cond.instanceMethod yX4_gainAt, Cond.selects RX4 yX4_gainAt yX4_gainAt, Cond.code yX4_gainAt cX4_gainAt 4 (some .long), Cond.fieldLink RX4 23 "Forwardroll$Deal" "amountLeft" "I", Cond.fieldLink RX4 27 "Forwardroll$Deal" "agreedRate" "I", Cond.fieldLink RX4 19 "Forwardroll$Deal" "buys" "Z", Cond.static yX5_homeAmount, Cond.code yX5_homeAmount cX5_homeAmount 2 (some .long), Cond.constantLong RX5 224 (10000)]
def wsL_roll_r4 : List Cond := [Cond.methodLink RX5 113 yX1_nextBusinessDay, Cond.instanceMethod yX1_nextBusinessDay, Cond.selects RX1 yX1_nextBusinessDay yX1_nextBusinessDay, Cond.initialized RX1, Cond.code yX1_nextBusinessDay cX1_nextBusinessDay 2 (some .int), Cond.fieldLink RX1 19 "Forwardroll$Calendar" "today" "I", Cond.methodLink RX1 23 yX1_isBusinessDay, Cond.instanceMethod yX1_isBusinessDay, Cond.selects RX1 yX1_isBusinessDay yX1_isBusinessDay, Cond.code yX1_isBusinessDay cX1_isBusinessDay 3 (some .boolean), Cond.fieldLink RX1 9 "Forwardroll$Calendar" "holidays" "[Z", Cond.methodLink RX5 132 yX3_book, Cond.instanceMethod yX3_book, Cond.selects RX3 yX3_book yX3_book, Cond.initialized RX3, Cond.code yX3_book cX3_book 6 none, Cond.fieldLink RX3 18 "Forwardroll$Customer" "netAmounts" "[LForwardroll$Amounts;", Cond.classLink RX3 16 RX0, Cond.instantiable RX0 1, Cond.initialized RX0, Cond.instanceMethod yX0_init, Cond.code yX0_init cX0_init 1 none, Cond.methodLink RX0 3 objectInit, Cond.instanceMethod objectInit]
def wsL_roll_r5 : List Cond := [Cond.code objectInit ⟨#[0xb1]⟩ 1 none, Cond.arrayClass .long, Cond.fieldLink RX0 9 "Forwardroll$Amounts" "byMoney" "[J", Cond.methodLink RX3 31 yX0_add, Cond.instanceMethod yX0_add, Cond.selects RX0 yX0_add yX0_add, Cond.code yX0_add cX0_add 4 none, Cond.methodLink RX5 149 yX4_moveWindow, Cond.instanceMethod yX4_moveWindow, Cond.selects RX4 yX4_moveWindow yX4_moveWindow, Cond.code yX4_moveWindow cX4_moveWindow 2 none, Cond.fieldLink RX4 30 "Forwardroll$Deal" "firstDay" "I", Cond.methodLink RX5 152 yX4_marketRate, Cond.methodLink RX5 158 yX2_laterRate]
def wsL_roll : List Cond := .codeWith yL_roll cL_roll 6 (some .int) [(0, 9, 12, 14), (0, 9, 17, 17), (0, 9, 22, 27)] :: ((wsL_roll_r1 ++ (wsL_roll_r2 ++ (wsL_roll_r3 ++ (wsL_roll_r4 ++ wsL_roll_r5)))) ++ wsX40 ++ wsX50 ++ wsX10 ++ wsX20 ++ wsX30 ++ wsX00 ++ (vx_atS RX5 61 "java/lang/IllegalStateException" ["java/lang/RuntimeException", "java/lang/Exception"]).filter goodWord ++ (vx_atS RX5 201 "java/lang/IndexOutOfBoundsException" ["java/lang/RuntimeException", "java/lang/Exception"]).filter goodWord ++ (vx_atS RX5 210 "java/lang/IllegalArgumentException" ["java/lang/RuntimeException", "java/lang/Exception"]).filter goodWord)
def wsL_closeOut_r1 : List Cond := [Cond.classLink RL 14 "java/lang/IndexOutOfBoundsException", Cond.classLink RL 27 "java/lang/IllegalStateException", Cond.constantLong RL 51 (-2000000071), Cond.constantLong RL 53 (-2000000073), Cond.methodLink RL 47 yX5_closeOut, Cond.instanceMethod yX5_closeOut, Cond.selects RX5 yX5_closeOut yX5_closeOut, Cond.initialized RX5, Cond.code yX5_closeOut cX5_closeOut 5 (some .long), Cond.methodLink RX5 99 yX5_dealNumbered, Cond.instanceMethod yX5_dealNumbered, Cond.selects RX5 yX5_dealNumbered yX5_dealNumbered, Cond.code yX5_dealNumbered cX5_dealNumbered 3 (some (.object "Forwardroll$Deal")), Cond.classLink RX5 197 "java/lang/IndexOutOfBoundsException", Cond.initialized "java/lang/IndexOutOfBoundsException", Cond.fieldLink RX5 34 "Forwardroll" "deals" "[LForwardroll$Deal;", Cond.methodLink RX5 84 yX5_isIndex, Cond.static yX5_isIndex, Cond.code yX5_isIndex cX5_isIndex 2 (some .boolean), Cond.methodLink RX5 136 yX5_requireLeft, Cond.static yX5_requireLeft, Cond.code yX5_requireLeft cX5_requireLeft 1 none, Cond.classLink RX5 57 "java/lang/IllegalStateException", Cond.initialized "java/lang/IllegalStateException"]
def wsL_closeOut_r2 : List Cond := [Cond.methodLink RX5 145 yX5_bookGain, Cond.instanceMethod yX5_bookGain, Cond.selects RX5 yX5_bookGain yX5_bookGain, Cond.code yX5_bookGain cX5_bookGain 4 (some .long), Cond.fieldLink RX5 12 "Forwardroll" "calendar" "LForwardroll$Calendar;", Cond.methodLink RX5 165 yX4_marketGain, Cond.instanceMethod yX4_marketGain, Cond.selects RX4 yX4_marketGain yX4_marketGain, Cond.initialized RX4, Cond.code yX4_marketGain cX4_marketGain 2 (some .long), Cond.methodLink RX4 42 yX4_marketRate, Cond.instanceMethod yX4_marketRate, Cond.selects RX4 yX4_marketRate yX4_marketRate, Cond.code yX4_marketRate cX4_marketRate 2 (some .int), Cond.fieldLink RX4 15 "Forwardroll$Deal" "currency" "LForwardroll$Currency;", Cond.fieldLink RX4 33 "Forwardroll$Deal" "lastDay" "I", Cond.methodLink RX4 36 yX2_forwardRate, Cond.instanceMethod yX2_forwardRate, Cond.selects RX2 yX2_forwardRate yX2_forwardRate, Cond.initialized RX2, Cond.code yX2_forwardRate cX2_forwardRate 2 (some .int), Cond.fieldLink RX2 9 "Forwardroll$Currency" "spotRate" "I", Cond.methodLink RX2 18 yX2_laterRate, Cond.instanceMethod yX2_laterRate]
def wsL_closeOut_r3 : List Cond := [Cond.selects RX2 yX2_laterRate yX2_laterRate, Cond.code yX2_laterRate cX2_laterRate 3 (some .int), Cond.fieldLink RX2 22 "Forwardroll$Currency" "points" "I", Cond.methodLink RX2 25 Lib.Math.max.name, Cond.static Lib.Math.max.name, Cond.initialized "java/lang/Math", Cond.code Lib.Math.max.name Lib.Math.max.code 2 (some .int), Cond.methodLink RX4 45 yX4_gainAt, Cond.instanceMethod yX4_gainAt, Cond.selects RX4 yX4_gainAt yX4_gainAt, Cond.code yX4_gainAt cX4_gainAt 4 (some .long), Cond.fieldLink RX4 23 "Forwardroll$Deal" "amountLeft" "I", Cond.fieldLink RX4 27 "Forwardroll$Deal" "agreedRate" "I", Cond.fieldLink RX4 19 "Forwardroll$Deal" "buys" "Z", Cond.static yX5_homeAmount, Cond.code yX5_homeAmount cX5_homeAmount 2 (some .long), Cond.constantLong RX5 224 (10000), Cond.methodLink RX5 113 yX1_nextBusinessDay, Cond.instanceMethod yX1_nextBusinessDay, Cond.selects RX1 yX1_nextBusinessDay yX1_nextBusinessDay, Cond.initialized RX1, Cond.code yX1_nextBusinessDay cX1_nextBusinessDay 2 (some .int), Cond.fieldLink RX1 19 "Forwardroll$Calendar" "today" "I", Cond.methodLink RX1 23 yX1_isBusinessDay]
def wsL_closeOut_r4 : List Cond := [Cond.instanceMethod yX1_isBusinessDay, Cond.selects RX1 yX1_isBusinessDay yX1_isBusinessDay, Cond.code yX1_isBusinessDay cX1_isBusinessDay 3 (some .boolean), Cond.fieldLink RX1 9 "Forwardroll$Calendar" "holidays" "[Z", Cond.methodLink RX5 132 yX3_book, Cond.instanceMethod yX3_book, Cond.selects RX3 yX3_book yX3_book, Cond.initialized RX3, Cond.code yX3_book cX3_book 6 none, Cond.fieldLink RX3 18 "Forwardroll$Customer" "netAmounts" "[LForwardroll$Amounts;", Cond.classLink RX3 16 RX0, Cond.instantiable RX0 1, Cond.initialized RX0, Cond.instanceMethod yX0_init, Cond.code yX0_init cX0_init 1 none, Cond.methodLink RX0 3 objectInit, Cond.instanceMethod objectInit, Cond.code objectInit ⟨#[0xb1]⟩ 1 none, Cond.arrayClass .long, Cond.fieldLink RX0 9 "Forwardroll$Amounts" "byMoney" "[J", Cond.methodLink RX3 31 yX0_add, Cond.instanceMethod yX0_add, Cond.selects RX0 yX0_add yX0_add, Cond.code yX0_add cX0_add 4 none]
def wsL_closeOut : List Cond := .codeWith yL_closeOut cL_closeOut 5 (some .long) [(0, 6, 9, 14), (0, 6, 15, 27)] :: ((wsL_closeOut_r1 ++ (wsL_closeOut_r2 ++ (wsL_closeOut_r3 ++ wsL_closeOut_r4))) ++ wsX40 ++ wsX50 ++ wsX10 ++ wsX20 ++ wsX30 ++ wsX00 ++ (vx_atS RX5 201 "java/lang/IndexOutOfBoundsException" ["java/lang/RuntimeException", "java/lang/Exception"]).filter goodWord ++ (vx_atS RX5 61 "java/lang/IllegalStateException" ["java/lang/RuntimeException", "java/lang/Exception"]).filter goodWord)
def wsL_left : List Cond := .codeWith yL_left cL_left 4 (some .int) [(0, 6, 9, 14)] :: ([.classLink RL 14 "java/lang/IndexOutOfBoundsException", .constant RL 16 (-2000000071), .methodLink RL 55 yX5_left, .instanceMethod yX5_left, .selects RX5 yX5_left yX5_left, .initialized RX5, .code yX5_left cX5_left 2 (some .int), .methodLink RX5 99 yX5_dealNumbered, .instanceMethod yX5_dealNumbered, .selects RX5 yX5_dealNumbered yX5_dealNumbered, .code yX5_dealNumbered cX5_dealNumbered 3 (some (.object "Forwardroll$Deal")), .classLink RX5 197 "java/lang/IndexOutOfBoundsException", .initialized "java/lang/IndexOutOfBoundsException", .fieldLink RX5 34 "Forwardroll" "deals" "[LForwardroll$Deal;", .methodLink RX5 84 yX5_isIndex, .static yX5_isIndex, .code yX5_isIndex cX5_isIndex 2 (some .boolean)] ++ wsX40 ++ wsX50 ++ (vx_atS RX5 201 "java/lang/IndexOutOfBoundsException" ["java/lang/RuntimeException", "java/lang/Exception"]).filter goodWord)
def wsL_exposure_r1 : List Cond := [Cond.classLink RL 14 "java/lang/IndexOutOfBoundsException", Cond.constantLong RL 51 (-2000000071), Cond.methodLink RL 59 yX5_exposure, Cond.instanceMethod yX5_exposure, Cond.selects RX5 yX5_exposure yX5_exposure, Cond.initialized RX5, Cond.code yX5_exposure cX5_exposure 3 (some .long), Cond.methodLink RX5 68 yX5_customerNumbered, Cond.instanceMethod yX5_customerNumbered, Cond.selects RX5 yX5_customerNumbered yX5_customerNumbered, Cond.code yX5_customerNumbered cX5_customerNumbered 3 (some (.object "Forwardroll$Customer")), Cond.classLink RX5 197 "java/lang/IndexOutOfBoundsException", Cond.initialized "java/lang/IndexOutOfBoundsException", Cond.fieldLink RX5 27 "Forwardroll" "customers" "[LForwardroll$Customer;", Cond.methodLink RX5 84 yX5_isIndex, Cond.static yX5_isIndex, Cond.code yX5_isIndex cX5_isIndex 2 (some .boolean), Cond.methodLink RX5 169 yX5_lossOfAll, Cond.instanceMethod yX5_lossOfAll, Cond.selects RX5 yX5_lossOfAll yX5_lossOfAll, Cond.code yX5_lossOfAll cX5_lossOfAll 9 (some .long), Cond.fieldLink RX5 34 "Forwardroll" "deals" "[LForwardroll$Deal;", Cond.fieldLink RX5 12 "Forwardroll" "calendar" "LForwardroll$Calendar;", Cond.methodLink RX5 216 yX4_shiftedLoss]
def wsL_exposure_r2 : List Cond := [Cond.instanceMethod yX4_shiftedLoss, Cond.selects RX4 yX4_shiftedLoss yX4_shiftedLoss, Cond.initialized RX4, Cond.code yX4_shiftedLoss cX4_shiftedLoss 4 (some .long), Cond.methodLink RX4 49 Lib.Math.max.name, Cond.static Lib.Math.max.name, Cond.initialized "java/lang/Math", Cond.code Lib.Math.max.name Lib.Math.max.code 2 (some .int), Cond.methodLink RX4 42 yX4_marketRate, Cond.instanceMethod yX4_marketRate, Cond.selects RX4 yX4_marketRate yX4_marketRate, Cond.code yX4_marketRate cX4_marketRate 2 (some .int), Cond.fieldLink RX4 15 "Forwardroll$Deal" "currency" "LForwardroll$Currency;", Cond.fieldLink RX4 33 "Forwardroll$Deal" "lastDay" "I", Cond.methodLink RX4 36 yX2_forwardRate, Cond.instanceMethod yX2_forwardRate, Cond.selects RX2 yX2_forwardRate yX2_forwardRate, Cond.initialized RX2, Cond.code yX2_forwardRate cX2_forwardRate 2 (some .int), Cond.fieldLink RX2 9 "Forwardroll$Currency" "spotRate" "I", Cond.methodLink RX2 18 yX2_laterRate, Cond.instanceMethod yX2_laterRate, Cond.selects RX2 yX2_laterRate yX2_laterRate, Cond.code yX2_laterRate cX2_laterRate 3 (some .int)]
def wsL_exposure_r3 : List Cond := [Cond.fieldLink RX2 22 "Forwardroll$Currency" "points" "I", Cond.methodLink RX2 25 Lib.Math.max.name, Cond.methodLink RX4 45 yX4_gainAt, Cond.instanceMethod yX4_gainAt, Cond.selects RX4 yX4_gainAt yX4_gainAt, Cond.code yX4_gainAt cX4_gainAt 4 (some .long), Cond.fieldLink RX4 23 "Forwardroll$Deal" "amountLeft" "I", Cond.fieldLink RX4 27 "Forwardroll$Deal" "agreedRate" "I", Cond.fieldLink RX4 19 "Forwardroll$Deal" "buys" "Z", Cond.static yX5_homeAmount, Cond.code yX5_homeAmount cX5_homeAmount 2 (some .long), Cond.constantLong RX5 224 (10000), Cond.methodLink RX5 173 yX5_worseLoss, Cond.static yX5_worseLoss, Cond.code yX5_worseLoss cX5_worseLoss 4 (some .long), Cond.methodLink RX5 219 Lib.MathLoose.max_long.x, Cond.static Lib.MathLoose.max_long.x, Cond.code Lib.MathLoose.max_long.x Lib.MathLoose.max_long.code 4 (some .long)]
def wsL_exposure : List Cond := .codeWith yL_exposure cL_exposure 5 (some .long) [(0, 6, 9, 14)] :: ((wsL_exposure_r1 ++ (wsL_exposure_r2 ++ wsL_exposure_r3)) ++ wsX50 ++ wsX40 ++ wsX10 ++ wsX20 ++ (vx_atS RX5 201 "java/lang/IndexOutOfBoundsException" ["java/lang/RuntimeException", "java/lang/Exception"]).filter goodWord)
def wsL_due_r1 : List Cond := [Cond.classLink RL 14 "java/lang/IndexOutOfBoundsException", Cond.classLink RL 17 "java/lang/IllegalArgumentException", Cond.constantLong RL 51 (-2000000071), Cond.constantLong RL 66 (-2000000072), Cond.methodLink RL 62 yX5_due, Cond.instanceMethod yX5_due, Cond.selects RX5 yX5_due yX5_due, Cond.initialized RX5, Cond.code yX5_due cX5_due 5 (some .long), Cond.fieldLink RX5 12 "Forwardroll" "calendar" "LForwardroll$Calendar;", Cond.methodLink RX5 68 yX5_customerNumbered, Cond.instanceMethod yX5_customerNumbered, Cond.selects RX5 yX5_customerNumbered yX5_customerNumbered, Cond.code yX5_customerNumbered cX5_customerNumbered 3 (some (.object "Forwardroll$Customer")), Cond.classLink RX5 197 "java/lang/IndexOutOfBoundsException", Cond.initialized "java/lang/IndexOutOfBoundsException", Cond.fieldLink RX5 27 "Forwardroll" "customers" "[LForwardroll$Customer;", Cond.methodLink RX5 84 yX5_isIndex, Cond.static yX5_isIndex, Cond.code yX5_isIndex cX5_isIndex 2 (some .boolean), Cond.methodLink RX5 43 yX5_requireRange, Cond.static yX5_requireRange, Cond.code yX5_requireRange cX5_requireRange 3 none, Cond.classLink RX5 206 "java/lang/IllegalArgumentException"]
def wsL_due_r2 : List Cond := [Cond.initialized "java/lang/IllegalArgumentException", Cond.methodLink RX5 177 yX3_netAmount, Cond.instanceMethod yX3_netAmount, Cond.selects RX3 yX3_netAmount yX3_netAmount, Cond.initialized RX3, Cond.code yX3_netAmount cX3_netAmount 4 (some .long), Cond.methodLink RX3 35 yX3_netAmountsOf, Cond.instanceMethod yX3_netAmountsOf, Cond.selects RX3 yX3_netAmountsOf yX3_netAmountsOf, Cond.code yX3_netAmountsOf cX3_netAmountsOf 2 (some (.object "Forwardroll$Amounts")), Cond.fieldLink RX3 18 "Forwardroll$Customer" "netAmounts" "[LForwardroll$Amounts;", Cond.methodLink RX3 39 yX0_amountOf, Cond.instanceMethod yX0_amountOf, Cond.selects RX0 yX0_amountOf yX0_amountOf, Cond.initialized RX0, Cond.code yX0_amountOf cX0_amountOf 2 (some .long), Cond.fieldLink RX0 9 "Forwardroll$Amounts" "byMoney" "[J"]
def wsL_due : List Cond := .codeWith yL_due cL_due 7 (some .long) [(0, 9, 12, 14), (0, 9, 18, 17)] :: ((wsL_due_r1 ++ wsL_due_r2) ++ wsX50 ++ wsX10 ++ wsX30 ++ wsX00 ++ (vx_atS RX5 201 "java/lang/IndexOutOfBoundsException" ["java/lang/RuntimeException", "java/lang/Exception"]).filter goodWord ++ (vx_atS RX5 210 "java/lang/IllegalArgumentException" ["java/lang/RuntimeException", "java/lang/Exception"]).filter goodWord)
def wsL_balance_r1 : List Cond := [Cond.classLink RL 14 "java/lang/IndexOutOfBoundsException", Cond.classLink RL 17 "java/lang/IllegalArgumentException", Cond.constantLong RL 51 (-2000000071), Cond.constantLong RL 66 (-2000000072), Cond.methodLink RL 68 yX5_balance, Cond.instanceMethod yX5_balance, Cond.selects RX5 yX5_balance yX5_balance, Cond.initialized RX5, Cond.code yX5_balance cX5_balance 4 (some .long), Cond.methodLink RX5 68 yX5_customerNumbered, Cond.instanceMethod yX5_customerNumbered, Cond.selects RX5 yX5_customerNumbered yX5_customerNumbered, Cond.code yX5_customerNumbered cX5_customerNumbered 3 (some (.object "Forwardroll$Customer")), Cond.classLink RX5 197 "java/lang/IndexOutOfBoundsException", Cond.initialized "java/lang/IndexOutOfBoundsException", Cond.fieldLink RX5 27 "Forwardroll" "customers" "[LForwardroll$Customer;", Cond.methodLink RX5 84 yX5_isIndex, Cond.static yX5_isIndex, Cond.code yX5_isIndex cX5_isIndex 2 (some .boolean), Cond.methodLink RX5 43 yX5_requireRange, Cond.static yX5_requireRange, Cond.code yX5_requireRange cX5_requireRange 3 none, Cond.classLink RX5 206 "java/lang/IllegalArgumentException", Cond.initialized "java/lang/IllegalArgumentException"]
def wsL_balance_r2 : List Cond := [Cond.methodLink RX5 184 yX0_amountOf, Cond.instanceMethod yX0_amountOf, Cond.selects RX0 yX0_amountOf yX0_amountOf, Cond.initialized RX0, Cond.code yX0_amountOf cX0_amountOf 2 (some .long), Cond.fieldLink RX0 9 "Forwardroll$Amounts" "byMoney" "[J"]
def wsL_balance : List Cond := .codeWith yL_balance cL_balance 6 (some .long) [(0, 7, 10, 14), (0, 7, 16, 17)] :: ((wsL_balance_r1 ++ wsL_balance_r2) ++ wsX30 ++ wsX50 ++ wsX00 ++ (vx_atS RX5 201 "java/lang/IndexOutOfBoundsException" ["java/lang/RuntimeException", "java/lang/Exception"]).filter goodWord ++ (vx_atS RX5 210 "java/lang/IllegalArgumentException" ["java/lang/RuntimeException", "java/lang/Exception"]).filter goodWord)
def wsL_pass_r1 : List Cond := [Cond.classLink RL 17 "java/lang/IllegalArgumentException", Cond.classLink RL 27 "java/lang/IllegalStateException", Cond.constant RL 19 (-2000000072), Cond.constant RL 29 (-2000000073), Cond.methodLink RL 72 yX5_pass, Cond.instanceMethod yX5_pass, Cond.selects RX5 yX5_pass yX5_pass, Cond.initialized RX5, Cond.code yX5_pass cX5_pass 4 (some .int), Cond.classLink RX5 57 "java/lang/IllegalStateException", Cond.initialized "java/lang/IllegalStateException", Cond.fieldLink RX5 12 "Forwardroll" "calendar" "LForwardroll$Calendar;", Cond.methodLink RX5 43 yX5_requireRange, Cond.static yX5_requireRange, Cond.code yX5_requireRange cX5_requireRange 3 none, Cond.classLink RX5 206 "java/lang/IllegalArgumentException", Cond.initialized "java/lang/IllegalArgumentException", Cond.methodLink RX5 191 yX5_endDealsOfToday, Cond.instanceMethod yX5_endDealsOfToday, Cond.selects RX5 yX5_endDealsOfToday yX5_endDealsOfToday, Cond.code yX5_endDealsOfToday cX5_endDealsOfToday 6 (some .int), Cond.fieldLink RX5 34 "Forwardroll" "deals" "[LForwardroll$Deal;", Cond.methodLink RX5 145 yX5_bookGain, Cond.instanceMethod yX5_bookGain]
def wsL_pass_r2 : List Cond := [Cond.selects RX5 yX5_bookGain yX5_bookGain, Cond.code yX5_bookGain cX5_bookGain 4 (some .long), Cond.methodLink RX5 165 yX4_marketGain, Cond.instanceMethod yX4_marketGain, Cond.selects RX4 yX4_marketGain yX4_marketGain, Cond.initialized RX4, Cond.code yX4_marketGain cX4_marketGain 2 (some .long), Cond.methodLink RX4 42 yX4_marketRate, Cond.instanceMethod yX4_marketRate, Cond.selects RX4 yX4_marketRate yX4_marketRate, Cond.code yX4_marketRate cX4_marketRate 2 (some .int), Cond.fieldLink RX4 15 "Forwardroll$Deal" "currency" "LForwardroll$Currency;", Cond.fieldLink RX4 33 "Forwardroll$Deal" "lastDay" "I", Cond.methodLink RX4 36 yX2_forwardRate, Cond.instanceMethod yX2_forwardRate, Cond.selects RX2 yX2_forwardRate yX2_forwardRate, Cond.initialized RX2, Cond.code yX2_forwardRate cX2_forwardRate 2 (some .int), Cond.fieldLink RX2 9 "Forwardroll$Currency" "spotRate" "I", Cond.methodLink RX2 18 yX2_laterRate, Cond.instanceMethod yX2_laterRate, Cond.selects RX2 yX2_laterRate yX2_laterRate, Cond.code yX2_laterRate cX2_laterRate 3 (some .int), Cond.fieldLink RX2 22 "Forwardroll$Currency" "points" "I"]
def wsL_pass_r3 : List Cond := [Cond.methodLink RX2 25 Lib.Math.max.name, Cond.static Lib.Math.max.name, Cond.initialized "java/lang/Math", Cond.code Lib.Math.max.name Lib.Math.max.code 2 (some .int), Cond.methodLink RX4 45 yX4_gainAt, Cond.instanceMethod yX4_gainAt, Cond.selects RX4 yX4_gainAt yX4_gainAt, Cond.code yX4_gainAt cX4_gainAt 4 (some .long), Cond.fieldLink RX4 23 "Forwardroll$Deal" "amountLeft" "I", Cond.fieldLink RX4 27 "Forwardroll$Deal" "agreedRate" "I", Cond.fieldLink RX4 19 "Forwardroll$Deal" "buys" "Z", Cond.static yX5_homeAmount, Cond.code yX5_homeAmount cX5_homeAmount 2 (some .long), Cond.constantLong RX5 224 (10000), Cond.methodLink RX5 113 yX1_nextBusinessDay, Cond.instanceMethod yX1_nextBusinessDay, Cond.selects RX1 yX1_nextBusinessDay yX1_nextBusinessDay, Cond.initialized RX1, Cond.code yX1_nextBusinessDay cX1_nextBusinessDay 2 (some .int), Cond.fieldLink RX1 19 "Forwardroll$Calendar" "today" "I", Cond.methodLink RX1 23 yX1_isBusinessDay, Cond.instanceMethod yX1_isBusinessDay, Cond.selects RX1 yX1_isBusinessDay yX1_isBusinessDay, Cond.code yX1_isBusinessDay cX1_isBusinessDay 3 (some .boolean)]
def wsL_pass_r4 : List Cond := [Cond.fieldLink RX1 9 "Forwardroll$Calendar" "holidays" "[Z", Cond.static yX5_isIndex, Cond.code yX5_isIndex cX5_isIndex 2 (some .boolean), Cond.methodLink RX5 132 yX3_book, Cond.instanceMethod yX3_book, Cond.selects RX3 yX3_book yX3_book, Cond.initialized RX3, Cond.code yX3_book cX3_book 6 none, Cond.fieldLink RX3 18 "Forwardroll$Customer" "netAmounts" "[LForwardroll$Amounts;", Cond.classLink RX3 16 RX0, Cond.instantiable RX0 1, Cond.initialized RX0, Cond.instanceMethod yX0_init, Cond.code yX0_init cX0_init 1 none, Cond.methodLink RX0 3 objectInit, Cond.instanceMethod objectInit, Cond.code objectInit ⟨#[0xb1]⟩ 1 none, Cond.arrayClass .long, Cond.fieldLink RX0 9 "Forwardroll$Amounts" "byMoney" "[J", Cond.methodLink RX3 31 yX0_add, Cond.instanceMethod yX0_add, Cond.selects RX0 yX0_add yX0_add, Cond.code yX0_add cX0_add 4 none, Cond.methodLink RX5 194 yX5_settleAll]
def wsL_pass_r5 : List Cond := [Cond.instanceMethod yX5_settleAll, Cond.selects RX5 yX5_settleAll yX5_settleAll, Cond.code yX5_settleAll cX5_settleAll 6 none, Cond.fieldLink RX5 27 "Forwardroll" "customers" "[LForwardroll$Customer;", Cond.methodLink RX5 213 yX3_settle, Cond.instanceMethod yX3_settle, Cond.selects RX3 yX3_settle yX3_settle, Cond.code yX3_settle cX3_settle 3 none, Cond.fieldLink RX3 23 "Forwardroll$Customer" "balances" "LForwardroll$Amounts;", Cond.methodLink RX3 35 yX3_netAmountsOf, Cond.instanceMethod yX3_netAmountsOf, Cond.selects RX3 yX3_netAmountsOf yX3_netAmountsOf, Cond.code yX3_netAmountsOf cX3_netAmountsOf 2 (some (.object "Forwardroll$Amounts")), Cond.methodLink RX3 43 yX0_addAll, Cond.instanceMethod yX0_addAll, Cond.selects RX0 yX0_addAll yX0_addAll, Cond.code yX0_addAll cX0_addAll 3 none, Cond.methodLink RX0 19 yX0_amountOf, Cond.instanceMethod yX0_amountOf, Cond.selects RX0 yX0_amountOf yX0_amountOf, Cond.code yX0_amountOf cX0_amountOf 2 (some .long), Cond.methodLink RX0 23 yX0_add]
def wsL_pass : List Cond := .codeWith yL_pass cL_pass 4 (some .int) [(0, 6, 9, 17), (0, 6, 13, 27)] :: ((wsL_pass_r1 ++ (wsL_pass_r2 ++ (wsL_pass_r3 ++ (wsL_pass_r4 ++ wsL_pass_r5)))) ++ wsX50 ++ wsX10 ++ wsX40 ++ wsX20 ++ wsX30 ++ wsX00 ++ (vx_atS RX5 61 "java/lang/IllegalStateException" ["java/lang/RuntimeException", "java/lang/Exception"]).filter goodWord ++ (vx_atS RX5 210 "java/lang/IllegalArgumentException" ["java/lang/RuntimeException", "java/lang/Exception"]).filter goodWord)
def wsL_forwards : List Cond := .code yL_forwards cL_forwards 4 (some .int) :: ([])
def wsL_worth : List Cond := .code yL_worth cL_worth 3 (some .long) :: ([.constantLong RL 75 (10000)])
def wsL_gains : List Cond := .code yL_gains cL_gains 7 (some .long) :: ([.methodLink RL 77 yL_worth, .static yL_worth, .initialized RL, .code yL_worth cL_worth 3 (some .long), .constantLong RL 75 (10000)])
def wsL_now : List Cond := .code yL_now cL_now 5 (some .int) :: ([.methodLink RL 83 yL_forwards, .static yL_forwards, .initialized RL, .code yL_forwards cL_forwards 4 (some .int)])
def wsL_exposes : List Cond := .code yL_exposes cL_exposes 14 (some .long) :: ([.methodLink RL 87 yL_now, .static yL_now, .initialized RL, .code yL_now cL_now 5 (some .int), .methodLink RL 83 yL_forwards, .static yL_forwards, .code yL_forwards cL_forwards 4 (some .int), .methodLink RL 91 yL_gains, .static yL_gains, .code yL_gains cL_gains 7 (some .long), .methodLink RL 77 yL_worth, .static yL_worth, .code yL_worth cL_worth 3 (some .long), .constantLong RL 75 (10000)])
def wsL_settles : List Cond := .code yL_settles cL_settles 2 (some .int) :: ([])
def wsL_owe : List Cond := .code yL_owe cL_owe 6 none :: ([.methodLink RL 95 yL_settles, .static yL_settles, .initialized RL, .code yL_settles cL_settles 2 (some .int)])
def wsL_markets_r1 : List Cond := [Cond.constant RL 102 (100000), Cond.constant RL 16 (-2000000071), Cond.constant RL 19 (-2000000072), Cond.constant RL 106 (100001), Cond.constant RL 109 (100000000), Cond.constant RL 112 (100000001), Cond.constant RL 29 (-2000000073), Cond.methodLink RL 99 yL_low, Cond.static yL_low, Cond.initialized RL, Cond.code yL_low cL_low 2 (some .int), Cond.methodLink RL 103 yL_setRate, Cond.static yL_setRate, Cond.codeWith yL_setRate cL_setRate 5 (some .int) [(0, 7, 10, 14), (0, 7, 15, 17)], Cond.classLink RL 14 "java/lang/IndexOutOfBoundsException", Cond.classLink RL 17 "java/lang/IllegalArgumentException", Cond.methodLink RL 8 yX5_setRate, Cond.instanceMethod yX5_setRate, Cond.selects RX5 yX5_setRate yX5_setRate, Cond.initialized RX5, Cond.code yX5_setRate cX5_setRate 5 (some .int), Cond.constant RX5 42 (100000), Cond.methodLink RX5 38 yX5_currencyNumbered, Cond.instanceMethod yX5_currencyNumbered]
def wsL_markets_r2 : List Cond := [Cond.selects RX5 yX5_currencyNumbered yX5_currencyNumbered, Cond.code yX5_currencyNumbered cX5_currencyNumbered 3 (some (.object "Forwardroll$Currency")), Cond.classLink RX5 197 "java/lang/IndexOutOfBoundsException", Cond.initialized "java/lang/IndexOutOfBoundsException", Cond.fieldLink RX5 18 "Forwardroll" "currencies" "[LForwardroll$Currency;", Cond.methodLink RX5 84 yX5_isIndex, Cond.static yX5_isIndex, Cond.code yX5_isIndex cX5_isIndex 2 (some .boolean), Cond.methodLink RX5 43 yX5_requireRange, Cond.static yX5_requireRange, Cond.code yX5_requireRange cX5_requireRange 3 none, Cond.classLink RX5 206 "java/lang/IllegalArgumentException", Cond.initialized "java/lang/IllegalArgumentException", Cond.methodLink RL 107 yL_setPoints, Cond.static yL_setPoints, Cond.codeWith yL_setPoints cL_setPoints 5 (some .int) [(0, 7, 10, 14), (0, 7, 15, 17)], Cond.methodLink RL 20 yX5_setPoints, Cond.instanceMethod yX5_setPoints, Cond.selects RX5 yX5_setPoints yX5_setPoints, Cond.code yX5_setPoints cX5_setPoints 5 (some .int), Cond.methodLink RL 110 yL_setLimit, Cond.static yL_setLimit, Cond.codeWith yL_setLimit cL_setLimit 5 (some .int) [(0, 7, 10, 14), (0, 7, 15, 17)], Cond.methodLink RL 30 yX5_setLimit]
def wsL_markets_r3 : List Cond := [Cond.instanceMethod yX5_setLimit, Cond.selects RX5 yX5_setLimit yX5_setLimit, Cond.code yX5_setLimit cX5_setLimit 5 (some .int), Cond.constant RX5 72 (100000000), Cond.methodLink RX5 68 yX5_customerNumbered, Cond.instanceMethod yX5_customerNumbered, Cond.selects RX5 yX5_customerNumbered yX5_customerNumbered, Cond.code yX5_customerNumbered cX5_customerNumbered 3 (some (.object "Forwardroll$Customer")), Cond.fieldLink RX5 27 "Forwardroll" "customers" "[LForwardroll$Customer;", Cond.methodLink RL 113 yL_toggleHoliday, Cond.static yL_toggleHoliday, Cond.codeWith yL_toggleHoliday cL_toggleHoliday 4 (some .int) [(0, 6, 9, 17), (0, 6, 13, 27)], Cond.classLink RL 27 "java/lang/IllegalStateException", Cond.methodLink RL 23 yX5_toggleHoliday, Cond.instanceMethod yX5_toggleHoliday, Cond.selects RX5 yX5_toggleHoliday yX5_toggleHoliday, Cond.code yX5_toggleHoliday cX5_toggleHoliday 2 (some .boolean), Cond.classLink RX5 57 "java/lang/IllegalStateException", Cond.initialized "java/lang/IllegalStateException", Cond.fieldLink RX5 12 "Forwardroll" "calendar" "LForwardroll$Calendar;", Cond.methodLink RX5 64 yX1_flipHoliday, Cond.instanceMethod yX1_flipHoliday, Cond.selects RX1 yX1_flipHoliday yX1_flipHoliday, Cond.initialized RX1]
def wsL_markets_r4 : List Cond := [Cond.code yX1_flipHoliday cX1_flipHoliday 2 (some .boolean), Cond.fieldLink RX1 9 "Forwardroll$Calendar" "holidays" "[Z", Cond.methodLink RL 116 yX5_today, Cond.instanceMethod yX5_today, Cond.selects RX5 yX5_today yX5_today, Cond.code yX5_today cX5_today 1 (some .int)]
def wsL_markets : List Cond := .code yL_markets cL_markets 10 (some .boolean) :: ((wsL_markets_r1 ++ (wsL_markets_r2 ++ (wsL_markets_r3 ++ wsL_markets_r4))) ++ wsX20 ++ wsX50 ++ wsX30 ++ wsX10 ++ (vx_atS RX5 201 "java/lang/IndexOutOfBoundsException" ["java/lang/RuntimeException", "java/lang/Exception"]).filter goodWord ++ (vx_atS RX5 210 "java/lang/IllegalArgumentException" ["java/lang/RuntimeException", "java/lang/Exception"]).filter goodWord ++ (vx_atS RX5 61 "java/lang/IllegalStateException" ["java/lang/RuntimeException", "java/lang/Exception"]).filter goodWord)
def wsL_deals_r1 : List Cond := [Cond.constant RL 120 (1000000), Cond.constant RL 16 (-2000000071), Cond.constant RL 19 (-2000000072), Cond.constant RL 124 (1000001), Cond.constant RL 29 (-2000000073), Cond.constantLong RL 51 (-2000000071), Cond.constantLong RL 53 (-2000000073), Cond.methodLink RL 99 yL_low, Cond.static yL_low, Cond.initialized RL, Cond.code yL_low cL_low 2 (some .int), Cond.methodLink RL 121 yL_deal, Cond.static yL_deal, Cond.codeWith yL_deal cL_deal 9 (some .int) [(0, 15, 18, 14), (0, 15, 23, 17), (0, 15, 28, 27)], Cond.classLink RL 14 "java/lang/IndexOutOfBoundsException", Cond.classLink RL 17 "java/lang/IllegalArgumentException", Cond.classLink RL 27 "java/lang/IllegalStateException", Cond.methodLink RL 36 yX5_deal, Cond.instanceMethod yX5_deal, Cond.selects RX5 yX5_deal yX5_deal, Cond.initialized RX5, Cond.code yX5_deal cX5_deal 12 (some .int), Cond.classLink RX5 57 "java/lang/IllegalStateException", Cond.initialized "java/lang/IllegalStateException"]
def wsL_deals_r2 : List Cond := [Cond.constant RX5 80 (1000000), Cond.fieldLink RX5 81 "Forwardroll" "dealCount" "I", Cond.fieldLink RX5 34 "Forwardroll" "deals" "[LForwardroll$Deal;", Cond.fieldLink RX5 12 "Forwardroll" "calendar" "LForwardroll$Calendar;", Cond.classLink RX5 32 RX4, Cond.instantiable RX4 7, Cond.initialized RX4, Cond.methodLink RX5 68 yX5_customerNumbered, Cond.instanceMethod yX5_customerNumbered, Cond.selects RX5 yX5_customerNumbered yX5_customerNumbered, Cond.code yX5_customerNumbered cX5_customerNumbered 3 (some (.object "Forwardroll$Customer")), Cond.classLink RX5 197 "java/lang/IndexOutOfBoundsException", Cond.initialized "java/lang/IndexOutOfBoundsException", Cond.fieldLink RX5 27 "Forwardroll" "customers" "[LForwardroll$Customer;", Cond.methodLink RX5 84 yX5_isIndex, Cond.static yX5_isIndex, Cond.code yX5_isIndex cX5_isIndex 2 (some .boolean), Cond.methodLink RX5 38 yX5_currencyNumbered, Cond.instanceMethod yX5_currencyNumbered, Cond.selects RX5 yX5_currencyNumbered yX5_currencyNumbered, Cond.code yX5_currencyNumbered cX5_currencyNumbered 3 (some (.object "Forwardroll$Currency")), Cond.fieldLink RX5 18 "Forwardroll" "currencies" "[LForwardroll$Currency;", Cond.methodLink RX5 43 yX5_requireRange, Cond.static yX5_requireRange]
def wsL_deals_r3 : List Cond := [Cond.code yX5_requireRange cX5_requireRange 3 none, Cond.classLink RX5 206 "java/lang/IllegalArgumentException", Cond.initialized "java/lang/IllegalArgumentException", Cond.methodLink RX5 76 yX2_forwardRate, Cond.instanceMethod yX2_forwardRate, Cond.selects RX2 yX2_forwardRate yX2_forwardRate, Cond.initialized RX2, Cond.code yX2_forwardRate cX2_forwardRate 2 (some .int), Cond.fieldLink RX2 9 "Forwardroll$Currency" "spotRate" "I", Cond.methodLink RX2 18 yX2_laterRate, Cond.instanceMethod yX2_laterRate, Cond.selects RX2 yX2_laterRate yX2_laterRate, Cond.code yX2_laterRate cX2_laterRate 3 (some .int), Cond.fieldLink RX2 22 "Forwardroll$Currency" "points" "I", Cond.methodLink RX2 25 Lib.Math.max.name, Cond.static Lib.Math.max.name, Cond.initialized "java/lang/Math", Cond.code Lib.Math.max.name Lib.Math.max.code 2 (some .int), Cond.methodLink RX5 90 yX4_init, Cond.instanceMethod yX4_init, Cond.code yX4_init cX4_init 8 none, Cond.methodLink RX4 3 objectInit, Cond.instanceMethod objectInit, Cond.code objectInit ⟨#[0xb1]⟩ 1 none]
def wsL_deals_r4 : List Cond := [Cond.fieldLink RX4 9 "Forwardroll$Deal" "customer" "LForwardroll$Customer;", Cond.fieldLink RX4 15 "Forwardroll$Deal" "currency" "LForwardroll$Currency;", Cond.fieldLink RX4 19 "Forwardroll$Deal" "buys" "Z", Cond.fieldLink RX4 23 "Forwardroll$Deal" "amountLeft" "I", Cond.fieldLink RX4 27 "Forwardroll$Deal" "agreedRate" "I", Cond.fieldLink RX4 30 "Forwardroll$Deal" "firstDay" "I", Cond.fieldLink RX4 33 "Forwardroll$Deal" "lastDay" "I", Cond.methodLink RX5 93 yX5_exposureWith, Cond.instanceMethod yX5_exposureWith, Cond.selects RX5 yX5_exposureWith yX5_exposureWith, Cond.code yX5_exposureWith cX5_exposureWith 4 (some .long), Cond.methodLink RX5 169 yX5_lossOfAll, Cond.instanceMethod yX5_lossOfAll, Cond.selects RX5 yX5_lossOfAll yX5_lossOfAll, Cond.code yX5_lossOfAll cX5_lossOfAll 9 (some .long), Cond.methodLink RX5 216 yX4_shiftedLoss, Cond.instanceMethod yX4_shiftedLoss, Cond.selects RX4 yX4_shiftedLoss yX4_shiftedLoss, Cond.code yX4_shiftedLoss cX4_shiftedLoss 4 (some .long), Cond.methodLink RX4 49 Lib.Math.max.name, Cond.methodLink RX4 42 yX4_marketRate, Cond.instanceMethod yX4_marketRate, Cond.selects RX4 yX4_marketRate yX4_marketRate, Cond.code yX4_marketRate cX4_marketRate 2 (some .int)]
def wsL_deals_r5 : List Cond := [Cond.methodLink RX4 36 yX2_forwardRate, Cond.methodLink RX4 45 yX4_gainAt, Cond.instanceMethod yX4_gainAt, Cond.selects RX4 yX4_gainAt yX4_gainAt, Cond.code yX4_gainAt cX4_gainAt 4 (some .long), Cond.static yX5_homeAmount, Cond.code yX5_homeAmount cX5_homeAmount 2 (some .long), Cond.constantLong RX5 224 (10000), Cond.methodLink RX5 173 yX5_worseLoss, Cond.static yX5_worseLoss, Cond.code yX5_worseLoss cX5_worseLoss 4 (some .long), Cond.methodLink RX5 219 Lib.MathLoose.max_long.x, Cond.static Lib.MathLoose.max_long.x, Cond.code Lib.MathLoose.max_long.x Lib.MathLoose.max_long.code 4 (some .long), Cond.methodLink RL 83 yL_forwards, Cond.static yL_forwards, Cond.code yL_forwards cL_forwards 4 (some .int), Cond.methodLink RL 125 yL_exposes, Cond.static yL_exposes, Cond.code yL_exposes cL_exposes 14 (some .long), Cond.methodLink RL 87 yL_now, Cond.static yL_now, Cond.code yL_now cL_now 5 (some .int), Cond.methodLink RL 91 yL_gains]
def wsL_deals_r6 : List Cond := [Cond.static yL_gains, Cond.code yL_gains cL_gains 7 (some .long), Cond.methodLink RL 77 yL_worth, Cond.static yL_worth, Cond.code yL_worth cL_worth 3 (some .long), Cond.constantLong RL 75 (10000), Cond.methodLink RL 129 yL_draw, Cond.static yL_draw, Cond.codeWith yL_draw cL_draw 5 (some .int) [(0, 7, 10, 14), (0, 7, 15, 17)], Cond.methodLink RL 40 yX5_draw, Cond.instanceMethod yX5_draw, Cond.selects RX5 yX5_draw yX5_draw, Cond.code yX5_draw cX5_draw 8 (some .int), Cond.methodLink RX5 99 yX5_dealNumbered, Cond.instanceMethod yX5_dealNumbered, Cond.selects RX5 yX5_dealNumbered yX5_dealNumbered, Cond.code yX5_dealNumbered cX5_dealNumbered 3 (some (.object "Forwardroll$Deal")), Cond.methodLink RX5 106 yX4_drawingRate, Cond.instanceMethod yX4_drawingRate, Cond.selects RX4 yX4_drawingRate yX4_drawingRate, Cond.code yX4_drawingRate cX4_drawingRate 2 (some .int), Cond.methodLink RX4 55 yX2_laterRate, Cond.methodLink RX5 109 yX5_homeAmount, Cond.methodLink RX5 113 yX1_nextBusinessDay]
def wsL_deals_r7 : List Cond := [Cond.instanceMethod yX1_nextBusinessDay, Cond.selects RX1 yX1_nextBusinessDay yX1_nextBusinessDay, Cond.initialized RX1, Cond.code yX1_nextBusinessDay cX1_nextBusinessDay 2 (some .int), Cond.fieldLink RX1 19 "Forwardroll$Calendar" "today" "I", Cond.methodLink RX1 23 yX1_isBusinessDay, Cond.instanceMethod yX1_isBusinessDay, Cond.selects RX1 yX1_isBusinessDay yX1_isBusinessDay, Cond.code yX1_isBusinessDay cX1_isBusinessDay 3 (some .boolean), Cond.fieldLink RX1 9 "Forwardroll$Calendar" "holidays" "[Z", Cond.methodLink RX5 132 yX3_book, Cond.instanceMethod yX3_book, Cond.selects RX3 yX3_book yX3_book, Cond.initialized RX3, Cond.code yX3_book cX3_book 6 none, Cond.fieldLink RX3 18 "Forwardroll$Customer" "netAmounts" "[LForwardroll$Amounts;", Cond.classLink RX3 16 RX0, Cond.instantiable RX0 1, Cond.initialized RX0, Cond.instanceMethod yX0_init, Cond.code yX0_init cX0_init 1 none, Cond.methodLink RX0 3 objectInit, Cond.arrayClass .long, Cond.fieldLink RX0 9 "Forwardroll$Amounts" "byMoney" "[J"]
def wsL_deals_r8 : List Cond := [Cond.methodLink RX3 31 yX0_add, Cond.instanceMethod yX0_add, Cond.selects RX0 yX0_add yX0_add, Cond.code yX0_add cX0_add 4 none, Cond.methodLink RL 131 yL_roll, Cond.static yL_roll, Cond.codeWith yL_roll cL_roll 6 (some .int) [(0, 9, 12, 14), (0, 9, 17, 17), (0, 9, 22, 27)], Cond.methodLink RL 43 yX5_roll, Cond.instanceMethod yX5_roll, Cond.selects RX5 yX5_roll yX5_roll, Cond.code yX5_roll cX5_roll 5 (some .int), Cond.methodLink RX5 136 yX5_requireLeft, Cond.static yX5_requireLeft, Cond.code yX5_requireLeft cX5_requireLeft 1 none, Cond.methodLink RX5 145 yX5_bookGain, Cond.instanceMethod yX5_bookGain, Cond.selects RX5 yX5_bookGain yX5_bookGain, Cond.code yX5_bookGain cX5_bookGain 4 (some .long), Cond.methodLink RX5 165 yX4_marketGain, Cond.instanceMethod yX4_marketGain, Cond.selects RX4 yX4_marketGain yX4_marketGain, Cond.code yX4_marketGain cX4_marketGain 2 (some .long), Cond.methodLink RX5 149 yX4_moveWindow, Cond.instanceMethod yX4_moveWindow]
def wsL_deals_r9 : List Cond := [Cond.selects RX4 yX4_moveWindow yX4_moveWindow, Cond.code yX4_moveWindow cX4_moveWindow 2 none, Cond.methodLink RX5 152 yX4_marketRate, Cond.methodLink RX5 158 yX2_laterRate, Cond.methodLink RL 134 yL_closeOut, Cond.static yL_closeOut, Cond.codeWith yL_closeOut cL_closeOut 5 (some .long) [(0, 6, 9, 14), (0, 6, 15, 27)], Cond.methodLink RL 47 yX5_closeOut, Cond.instanceMethod yX5_closeOut, Cond.selects RX5 yX5_closeOut yX5_closeOut, Cond.code yX5_closeOut cX5_closeOut 5 (some .long), Cond.methodLink RL 137 yL_owe, Cond.static yL_owe, Cond.code yL_owe cL_owe 6 none, Cond.methodLink RL 95 yL_settles, Cond.static yL_settles, Cond.code yL_settles cL_settles 2 (some .int)]
def wsL_deals : List Cond := .code yL_deals cL_deals 19 (some .boolean) :: ((wsL_deals_r1 ++ (wsL_deals_r2 ++ (wsL_deals_r3 ++ (wsL_deals_r4 ++ (wsL_deals_r5 ++ (wsL_deals_r6 ++ (wsL_deals_r7 ++ (wsL_deals_r8 ++ wsL_deals_r9)))))))) ++ wsX50 ++ wsX10 ++ wsX40 ++ wsX30 ++ wsX20 ++ wsX00 ++ (vx_atS RX5 61 "java/lang/IllegalStateException" ["java/lang/RuntimeException", "java/lang/Exception"]).filter goodWord ++ (vx_atS RX5 201 "java/lang/IndexOutOfBoundsException" ["java/lang/RuntimeException", "java/lang/Exception"]).filter goodWord ++ (vx_atS RX5 210 "java/lang/IllegalArgumentException" ["java/lang/RuntimeException", "java/lang/Exception"]).filter goodWord)
def wsL_passes_r1 : List Cond := [Cond.constant RL 19 (-2000000072), Cond.constant RL 29 (-2000000073), Cond.methodLink RL 141 yL_pass, Cond.static yL_pass, Cond.initialized RL, Cond.codeWith yL_pass cL_pass 4 (some .int) [(0, 6, 9, 17), (0, 6, 13, 27)], Cond.classLink RL 17 "java/lang/IllegalArgumentException", Cond.classLink RL 27 "java/lang/IllegalStateException", Cond.methodLink RL 72 yX5_pass, Cond.instanceMethod yX5_pass, Cond.selects RX5 yX5_pass yX5_pass, Cond.initialized RX5, Cond.code yX5_pass cX5_pass 4 (some .int), Cond.classLink RX5 57 "java/lang/IllegalStateException", Cond.initialized "java/lang/IllegalStateException", Cond.fieldLink RX5 12 "Forwardroll" "calendar" "LForwardroll$Calendar;", Cond.methodLink RX5 43 yX5_requireRange, Cond.static yX5_requireRange, Cond.code yX5_requireRange cX5_requireRange 3 none, Cond.classLink RX5 206 "java/lang/IllegalArgumentException", Cond.initialized "java/lang/IllegalArgumentException", Cond.methodLink RX5 191 yX5_endDealsOfToday, Cond.instanceMethod yX5_endDealsOfToday, Cond.selects RX5 yX5_endDealsOfToday yX5_endDealsOfToday]
def wsL_passes_r2 : List Cond := [Cond.code yX5_endDealsOfToday cX5_endDealsOfToday 6 (some .int), Cond.fieldLink RX5 34 "Forwardroll" "deals" "[LForwardroll$Deal;", Cond.methodLink RX5 145 yX5_bookGain, Cond.instanceMethod yX5_bookGain, Cond.selects RX5 yX5_bookGain yX5_bookGain, Cond.code yX5_bookGain cX5_bookGain 4 (some .long), Cond.methodLink RX5 165 yX4_marketGain, Cond.instanceMethod yX4_marketGain, Cond.selects RX4 yX4_marketGain yX4_marketGain, Cond.initialized RX4, Cond.code yX4_marketGain cX4_marketGain 2 (some .long), Cond.methodLink RX4 42 yX4_marketRate, Cond.instanceMethod yX4_marketRate, Cond.selects RX4 yX4_marketRate yX4_marketRate, Cond.code yX4_marketRate cX4_marketRate 2 (some .int), Cond.fieldLink RX4 15 "Forwardroll$Deal" "currency" "LForwardroll$Currency;", Cond.fieldLink RX4 33 "Forwardroll$Deal" "lastDay" "I", Cond.methodLink RX4 36 yX2_forwardRate, Cond.instanceMethod yX2_forwardRate, Cond.selects RX2 yX2_forwardRate yX2_forwardRate, Cond.initialized RX2, Cond.code yX2_forwardRate cX2_forwardRate 2 (some .int), Cond.fieldLink RX2 9 "Forwardroll$Currency" "spotRate" "I", Cond.methodLink RX2 18 yX2_laterRate]
def wsL_passes_r3 : List Cond := [Cond.instanceMethod yX2_laterRate, Cond.selects RX2 yX2_laterRate yX2_laterRate, Cond.code yX2_laterRate cX2_laterRate 3 (some .int), Cond.fieldLink RX2 22 "Forwardroll$Currency" "points" "I", Cond.methodLink RX2 25 Lib.Math.max.name, Cond.static Lib.Math.max.name, Cond.initialized "java/lang/Math", Cond.code Lib.Math.max.name Lib.Math.max.code 2 (some .int), Cond.methodLink RX4 45 yX4_gainAt, Cond.instanceMethod yX4_gainAt, Cond.selects RX4 yX4_gainAt yX4_gainAt, Cond.code yX4_gainAt cX4_gainAt 4 (some .long), Cond.fieldLink RX4 23 "Forwardroll$Deal" "amountLeft" "I", Cond.fieldLink RX4 27 "Forwardroll$Deal" "agreedRate" "I", Cond.fieldLink RX4 19 "Forwardroll$Deal" "buys" "Z", Cond.static yX5_homeAmount, Cond.code yX5_homeAmount cX5_homeAmount 2 (some .long), Cond.constantLong RX5 224 (10000), Cond.methodLink RX5 113 yX1_nextBusinessDay, Cond.instanceMethod yX1_nextBusinessDay, Cond.selects RX1 yX1_nextBusinessDay yX1_nextBusinessDay, Cond.initialized RX1, Cond.code yX1_nextBusinessDay cX1_nextBusinessDay 2 (some .int), Cond.fieldLink RX1 19 "Forwardroll$Calendar" "today" "I"]
def wsL_passes_r4 : List Cond := [Cond.methodLink RX1 23 yX1_isBusinessDay, Cond.instanceMethod yX1_isBusinessDay, Cond.selects RX1 yX1_isBusinessDay yX1_isBusinessDay, Cond.code yX1_isBusinessDay cX1_isBusinessDay 3 (some .boolean), Cond.fieldLink RX1 9 "Forwardroll$Calendar" "holidays" "[Z", Cond.static yX5_isIndex, Cond.code yX5_isIndex cX5_isIndex 2 (some .boolean), Cond.methodLink RX5 132 yX3_book, Cond.instanceMethod yX3_book, Cond.selects RX3 yX3_book yX3_book, Cond.initialized RX3, Cond.code yX3_book cX3_book 6 none, Cond.fieldLink RX3 18 "Forwardroll$Customer" "netAmounts" "[LForwardroll$Amounts;", Cond.classLink RX3 16 RX0, Cond.instantiable RX0 1, Cond.initialized RX0, Cond.instanceMethod yX0_init, Cond.code yX0_init cX0_init 1 none, Cond.methodLink RX0 3 objectInit, Cond.instanceMethod objectInit, Cond.code objectInit ⟨#[0xb1]⟩ 1 none, Cond.arrayClass .long, Cond.fieldLink RX0 9 "Forwardroll$Amounts" "byMoney" "[J", Cond.methodLink RX3 31 yX0_add]
def wsL_passes_r5 : List Cond := [Cond.instanceMethod yX0_add, Cond.selects RX0 yX0_add yX0_add, Cond.code yX0_add cX0_add 4 none, Cond.methodLink RX5 194 yX5_settleAll, Cond.instanceMethod yX5_settleAll, Cond.selects RX5 yX5_settleAll yX5_settleAll, Cond.code yX5_settleAll cX5_settleAll 6 none, Cond.fieldLink RX5 27 "Forwardroll" "customers" "[LForwardroll$Customer;", Cond.methodLink RX5 213 yX3_settle, Cond.instanceMethod yX3_settle, Cond.selects RX3 yX3_settle yX3_settle, Cond.code yX3_settle cX3_settle 3 none, Cond.fieldLink RX3 23 "Forwardroll$Customer" "balances" "LForwardroll$Amounts;", Cond.methodLink RX3 35 yX3_netAmountsOf, Cond.instanceMethod yX3_netAmountsOf, Cond.selects RX3 yX3_netAmountsOf yX3_netAmountsOf, Cond.code yX3_netAmountsOf cX3_netAmountsOf 2 (some (.object "Forwardroll$Amounts")), Cond.methodLink RX3 43 yX0_addAll, Cond.instanceMethod yX0_addAll, Cond.selects RX0 yX0_addAll yX0_addAll, Cond.code yX0_addAll cX0_addAll 3 none, Cond.methodLink RX0 19 yX0_amountOf, Cond.instanceMethod yX0_amountOf, Cond.selects RX0 yX0_amountOf yX0_amountOf]
def wsL_passes_r6 : List Cond := [Cond.code yX0_amountOf cX0_amountOf 2 (some .long), Cond.methodLink RX0 23 yX0_add, Cond.methodLink RL 91 yL_gains, Cond.static yL_gains, Cond.code yL_gains cL_gains 7 (some .long), Cond.methodLink RL 77 yL_worth, Cond.static yL_worth, Cond.code yL_worth cL_worth 3 (some .long), Cond.constantLong RL 75 (10000), Cond.methodLink RL 137 yL_owe, Cond.static yL_owe, Cond.code yL_owe cL_owe 6 none, Cond.methodLink RL 95 yL_settles, Cond.static yL_settles, Cond.code yL_settles cL_settles 2 (some .int)]
def wsL_passes : List Cond := .code yL_passes cL_passes 13 (some .boolean) :: ((wsL_passes_r1 ++ (wsL_passes_r2 ++ (wsL_passes_r3 ++ (wsL_passes_r4 ++ (wsL_passes_r5 ++ wsL_passes_r6))))) ++ wsX50 ++ wsX10 ++ wsX40 ++ wsX20 ++ wsX30 ++ wsX00 ++ (vx_atS RX5 61 "java/lang/IllegalStateException" ["java/lang/RuntimeException", "java/lang/Exception"]).filter goodWord ++ (vx_atS RX5 210 "java/lang/IllegalArgumentException" ["java/lang/RuntimeException", "java/lang/Exception"]).filter goodWord)
def wsL_isTold_r1 : List Cond := [Cond.constant RL 16 (-2000000071), Cond.constantLong RL 51 (-2000000071), Cond.constantLong RL 66 (-2000000072), Cond.constant RL 19 (-2000000072), Cond.methodLink RL 87 yL_now, Cond.static yL_now, Cond.initialized RL, Cond.code yL_now cL_now 5 (some .int), Cond.methodLink RL 83 yL_forwards, Cond.static yL_forwards, Cond.code yL_forwards cL_forwards 4 (some .int), Cond.methodLink RL 91 yL_gains, Cond.static yL_gains, Cond.code yL_gains cL_gains 7 (some .long), Cond.methodLink RL 77 yL_worth, Cond.static yL_worth, Cond.code yL_worth cL_worth 3 (some .long), Cond.constantLong RL 75 (10000), Cond.methodLink RL 143 yL_left, Cond.static yL_left, Cond.codeWith yL_left cL_left 4 (some .int) [(0, 6, 9, 14)], Cond.classLink RL 14 "java/lang/IndexOutOfBoundsException", Cond.methodLink RL 55 yX5_left, Cond.instanceMethod yX5_left]
def wsL_isTold_r2 : List Cond := [Cond.selects RX5 yX5_left yX5_left, Cond.initialized RX5, Cond.code yX5_left cX5_left 2 (some .int), Cond.methodLink RX5 99 yX5_dealNumbered, Cond.instanceMethod yX5_dealNumbered, Cond.selects RX5 yX5_dealNumbered yX5_dealNumbered, Cond.code yX5_dealNumbered cX5_dealNumbered 3 (some (.object "Forwardroll$Deal")), Cond.classLink RX5 197 "java/lang/IndexOutOfBoundsException", Cond.initialized "java/lang/IndexOutOfBoundsException", Cond.fieldLink RX5 34 "Forwardroll" "deals" "[LForwardroll$Deal;", Cond.methodLink RX5 84 yX5_isIndex, Cond.static yX5_isIndex, Cond.code yX5_isIndex cX5_isIndex 2 (some .boolean), Cond.methodLink RL 145 yX5_rate, Cond.instanceMethod yX5_rate, Cond.selects RX5 yX5_rate yX5_rate, Cond.code yX5_rate cX5_rate 2 (some .int), Cond.methodLink RL 148 yX5_window, Cond.instanceMethod yX5_window, Cond.selects RX5 yX5_window yX5_window, Cond.code yX5_window cX5_window 3 (some .int), Cond.methodLink RL 151 yX5_gain, Cond.instanceMethod yX5_gain, Cond.selects RX5 yX5_gain yX5_gain]
def wsL_isTold_r3 : List Cond := [Cond.code yX5_gain cX5_gain 2 (some .long), Cond.fieldLink RX5 12 "Forwardroll" "calendar" "LForwardroll$Calendar;", Cond.methodLink RX5 165 yX4_marketGain, Cond.instanceMethod yX4_marketGain, Cond.selects RX4 yX4_marketGain yX4_marketGain, Cond.initialized RX4, Cond.code yX4_marketGain cX4_marketGain 2 (some .long), Cond.methodLink RX4 42 yX4_marketRate, Cond.instanceMethod yX4_marketRate, Cond.selects RX4 yX4_marketRate yX4_marketRate, Cond.code yX4_marketRate cX4_marketRate 2 (some .int), Cond.fieldLink RX4 15 "Forwardroll$Deal" "currency" "LForwardroll$Currency;", Cond.fieldLink RX4 33 "Forwardroll$Deal" "lastDay" "I", Cond.methodLink RX4 36 yX2_forwardRate, Cond.instanceMethod yX2_forwardRate, Cond.selects RX2 yX2_forwardRate yX2_forwardRate, Cond.initialized RX2, Cond.code yX2_forwardRate cX2_forwardRate 2 (some .int), Cond.fieldLink RX2 9 "Forwardroll$Currency" "spotRate" "I", Cond.methodLink RX2 18 yX2_laterRate, Cond.instanceMethod yX2_laterRate, Cond.selects RX2 yX2_laterRate yX2_laterRate, Cond.code yX2_laterRate cX2_laterRate 3 (some .int), Cond.fieldLink RX2 22 "Forwardroll$Currency" "points" "I"]
def wsL_isTold_r4 : List Cond := [Cond.methodLink RX2 25 Lib.Math.max.name, Cond.static Lib.Math.max.name, Cond.initialized "java/lang/Math", Cond.code Lib.Math.max.name Lib.Math.max.code 2 (some .int), Cond.methodLink RX4 45 yX4_gainAt, Cond.instanceMethod yX4_gainAt, Cond.selects RX4 yX4_gainAt yX4_gainAt, Cond.code yX4_gainAt cX4_gainAt 4 (some .long), Cond.fieldLink RX4 23 "Forwardroll$Deal" "amountLeft" "I", Cond.fieldLink RX4 27 "Forwardroll$Deal" "agreedRate" "I", Cond.fieldLink RX4 19 "Forwardroll$Deal" "buys" "Z", Cond.static yX5_homeAmount, Cond.code yX5_homeAmount cX5_homeAmount 2 (some .long), Cond.constantLong RX5 224 (10000), Cond.methodLink RL 154 yL_exposure, Cond.static yL_exposure, Cond.codeWith yL_exposure cL_exposure 5 (some .long) [(0, 6, 9, 14)], Cond.methodLink RL 59 yX5_exposure, Cond.instanceMethod yX5_exposure, Cond.selects RX5 yX5_exposure yX5_exposure, Cond.code yX5_exposure cX5_exposure 3 (some .long), Cond.methodLink RX5 68 yX5_customerNumbered, Cond.instanceMethod yX5_customerNumbered, Cond.selects RX5 yX5_customerNumbered yX5_customerNumbered]
def wsL_isTold_r5 : List Cond := [Cond.code yX5_customerNumbered cX5_customerNumbered 3 (some (.object "Forwardroll$Customer")), Cond.fieldLink RX5 27 "Forwardroll" "customers" "[LForwardroll$Customer;", Cond.methodLink RX5 169 yX5_lossOfAll, Cond.instanceMethod yX5_lossOfAll, Cond.selects RX5 yX5_lossOfAll yX5_lossOfAll, Cond.code yX5_lossOfAll cX5_lossOfAll 9 (some .long), Cond.methodLink RX5 216 yX4_shiftedLoss, Cond.instanceMethod yX4_shiftedLoss, Cond.selects RX4 yX4_shiftedLoss yX4_shiftedLoss, Cond.code yX4_shiftedLoss cX4_shiftedLoss 4 (some .long), Cond.methodLink RX4 49 Lib.Math.max.name, Cond.methodLink RX5 173 yX5_worseLoss, Cond.static yX5_worseLoss, Cond.code yX5_worseLoss cX5_worseLoss 4 (some .long), Cond.methodLink RX5 219 Lib.MathLoose.max_long.x, Cond.static Lib.MathLoose.max_long.x, Cond.code Lib.MathLoose.max_long.x Lib.MathLoose.max_long.code 4 (some .long), Cond.methodLink RL 125 yL_exposes, Cond.static yL_exposes, Cond.code yL_exposes cL_exposes 14 (some .long), Cond.methodLink RL 156 yL_balance, Cond.static yL_balance, Cond.codeWith yL_balance cL_balance 6 (some .long) [(0, 7, 10, 14), (0, 7, 16, 17)], Cond.classLink RL 17 "java/lang/IllegalArgumentException"]
def wsL_isTold_r6 : List Cond := [Cond.methodLink RL 68 yX5_balance, Cond.instanceMethod yX5_balance, Cond.selects RX5 yX5_balance yX5_balance, Cond.code yX5_balance cX5_balance 4 (some .long), Cond.methodLink RX5 43 yX5_requireRange, Cond.static yX5_requireRange, Cond.code yX5_requireRange cX5_requireRange 3 none, Cond.classLink RX5 206 "java/lang/IllegalArgumentException", Cond.initialized "java/lang/IllegalArgumentException", Cond.methodLink RX5 184 yX0_amountOf, Cond.instanceMethod yX0_amountOf, Cond.selects RX0 yX0_amountOf yX0_amountOf, Cond.initialized RX0, Cond.code yX0_amountOf cX0_amountOf 2 (some .long), Cond.fieldLink RX0 9 "Forwardroll$Amounts" "byMoney" "[J", Cond.methodLink RL 159 yL_due, Cond.static yL_due, Cond.codeWith yL_due cL_due 7 (some .long) [(0, 9, 12, 14), (0, 9, 18, 17)], Cond.methodLink RL 62 yX5_due, Cond.instanceMethod yX5_due, Cond.selects RX5 yX5_due yX5_due, Cond.code yX5_due cX5_due 5 (some .long), Cond.methodLink RX5 177 yX3_netAmount, Cond.instanceMethod yX3_netAmount]
def wsL_isTold_r7 : List Cond := [Cond.selects RX3 yX3_netAmount yX3_netAmount, Cond.initialized RX3, Cond.code yX3_netAmount cX3_netAmount 4 (some .long), Cond.methodLink RX3 35 yX3_netAmountsOf, Cond.instanceMethod yX3_netAmountsOf, Cond.selects RX3 yX3_netAmountsOf yX3_netAmountsOf, Cond.code yX3_netAmountsOf cX3_netAmountsOf 2 (some (.object "Forwardroll$Amounts")), Cond.fieldLink RX3 18 "Forwardroll$Customer" "netAmounts" "[LForwardroll$Amounts;", Cond.methodLink RX3 39 yX0_amountOf, Cond.methodLink RL 99 yL_low, Cond.static yL_low, Cond.code yL_low cL_low 2 (some .int), Cond.methodLink RL 162 yL_forward, Cond.static yL_forward, Cond.codeWith yL_forward cL_forward 5 (some .int) [(0, 7, 10, 14), (0, 7, 15, 17)], Cond.methodLink RL 33 yX5_forward, Cond.instanceMethod yX5_forward, Cond.selects RX5 yX5_forward yX5_forward, Cond.code yX5_forward cX5_forward 4 (some .int), Cond.methodLink RX5 38 yX5_currencyNumbered, Cond.instanceMethod yX5_currencyNumbered, Cond.selects RX5 yX5_currencyNumbered yX5_currencyNumbered, Cond.code yX5_currencyNumbered cX5_currencyNumbered 3 (some (.object "Forwardroll$Currency")), Cond.fieldLink RX5 18 "Forwardroll" "currencies" "[LForwardroll$Currency;"]
def wsL_isTold_r8 : List Cond := [Cond.methodLink RX5 76 yX2_forwardRate, Cond.methodLink RL 116 yX5_today, Cond.instanceMethod yX5_today, Cond.selects RX5 yX5_today yX5_today, Cond.code yX5_today cX5_today 1 (some .int), Cond.methodLink RL 164 yX5_settlementDay, Cond.instanceMethod yX5_settlementDay, Cond.selects RX5 yX5_settlementDay yX5_settlementDay, Cond.code yX5_settlementDay cX5_settlementDay 1 (some .int), Cond.methodLink RX5 113 yX1_nextBusinessDay, Cond.instanceMethod yX1_nextBusinessDay, Cond.selects RX1 yX1_nextBusinessDay yX1_nextBusinessDay, Cond.initialized RX1, Cond.code yX1_nextBusinessDay cX1_nextBusinessDay 2 (some .int), Cond.fieldLink RX1 19 "Forwardroll$Calendar" "today" "I", Cond.methodLink RX1 23 yX1_isBusinessDay, Cond.instanceMethod yX1_isBusinessDay, Cond.selects RX1 yX1_isBusinessDay yX1_isBusinessDay, Cond.code yX1_isBusinessDay cX1_isBusinessDay 3 (some .boolean), Cond.fieldLink RX1 9 "Forwardroll$Calendar" "holidays" "[Z", Cond.methodLink RL 95 yL_settles, Cond.static yL_settles, Cond.code yL_settles cL_settles 2 (some .int)]
def wsL_isTold : List Cond := .code yL_isTold cL_isTold 15 (some .boolean) :: ((wsL_isTold_r1 ++ (wsL_isTold_r2 ++ (wsL_isTold_r3 ++ (wsL_isTold_r4 ++ (wsL_isTold_r5 ++ (wsL_isTold_r6 ++ (wsL_isTold_r7 ++ wsL_isTold_r8))))))) ++ wsX40 ++ wsX50 ++ wsX10 ++ wsX20 ++ wsX30 ++ wsX00 ++ (vx_atS RX5 201 "java/lang/IndexOutOfBoundsException" ["java/lang/RuntimeException", "java/lang/Exception"]).filter goodWord ++ (vx_atS RX5 210 "java/lang/IllegalArgumentException" ["java/lang/RuntimeException", "java/lang/Exception"]).filter goodWord)
def wsL_law0_r1 : List Cond := [Cond.classLink RL 9 RX5, Cond.instantiable RX5 5, Cond.initialized RX5, Cond.arrayClass .int, Cond.arrayClass .long, Cond.constant RL 120 (1000000), Cond.methodLink RL 167 yX5_init, Cond.instanceMethod yX5_init, Cond.code yX5_init cX5_init 2 none, Cond.methodLink RX5 3 objectInit, Cond.instanceMethod objectInit, Cond.code objectInit ⟨#[0xb1]⟩ 1 none, Cond.classLink RX5 9 RX1, Cond.instantiable RX1 2, Cond.initialized RX1, Cond.fieldLink RX5 12 "Forwardroll" "calendar" "LForwardroll$Calendar;", Cond.classLink RX5 16 RX2, Cond.fieldLink RX5 18 "Forwardroll" "currencies" "[LForwardroll$Currency;", Cond.instantiable RX2 3, Cond.initialized RX2, Cond.classLink RX5 25 RX3, Cond.fieldLink RX5 27 "Forwardroll" "customers" "[LForwardroll$Customer;", Cond.instantiable RX3 3, Cond.initialized RX3]
def wsL_law0_r2 : List Cond := [Cond.classLink RX5 32 RX4, Cond.fieldLink RX5 34 "Forwardroll" "deals" "[LForwardroll$Deal;", Cond.instanceMethod yX1_init, Cond.code yX1_init cX1_init 1 none, Cond.methodLink RX1 3 objectInit, Cond.arrayClass .boolean, Cond.fieldLink RX1 9 "Forwardroll$Calendar" "holidays" "[Z", Cond.methodLink RX5 22 yX2_init, Cond.instanceMethod yX2_init, Cond.code yX2_init cX2_init 2 none, Cond.methodLink RX2 3 objectInit, Cond.fieldLink RX2 9 "Forwardroll$Currency" "spotRate" "I", Cond.fieldLink RX2 15 "Forwardroll$Currency" "number" "I", Cond.instanceMethod yX3_init, Cond.code yX3_init cX3_init 1 none, Cond.methodLink RX3 3 objectInit, Cond.constant RX3 9 (1000000), Cond.fieldLink RX3 10 "Forwardroll$Customer" "limit" "I", Cond.classLink RX3 16 RX0, Cond.fieldLink RX3 18 "Forwardroll$Customer" "netAmounts" "[LForwardroll$Amounts;", Cond.instantiable RX0 1, Cond.initialized RX0, Cond.fieldLink RX3 23 "Forwardroll$Customer" "balances" "LForwardroll$Amounts;", Cond.instanceMethod yX0_init]
def wsL_law0_r3 : List Cond := [Cond.code yX0_init cX0_init 1 none, Cond.methodLink RX0 3 objectInit, Cond.fieldLink RX0 9 "Forwardroll$Amounts" "byMoney" "[J", Cond.methodLink RL 168 yL_isTold, Cond.static yL_isTold, Cond.initialized RL, Cond.code yL_isTold cL_isTold 15 (some .boolean), Cond.constant RL 16 (-2000000071), Cond.constantLong RL 51 (-2000000071), Cond.constantLong RL 66 (-2000000072), Cond.constant RL 19 (-2000000072), Cond.methodLink RL 87 yL_now, Cond.static yL_now, Cond.code yL_now cL_now 5 (some .int), Cond.methodLink RL 83 yL_forwards, Cond.static yL_forwards, Cond.code yL_forwards cL_forwards 4 (some .int), Cond.methodLink RL 91 yL_gains, Cond.static yL_gains, Cond.code yL_gains cL_gains 7 (some .long), Cond.methodLink RL 77 yL_worth, Cond.static yL_worth, Cond.code yL_worth cL_worth 3 (some .long), Cond.constantLong RL 75 (10000)]
def wsL_law0_r4 : List Cond := [Cond.methodLink RL 143 yL_left, Cond.static yL_left, Cond.codeWith yL_left cL_left 4 (some .int) [(0, 6, 9, 14)], Cond.classLink RL 14 "java/lang/IndexOutOfBoundsException", Cond.methodLink RL 55 yX5_left, Cond.instanceMethod yX5_left, Cond.selects RX5 yX5_left yX5_left, Cond.code yX5_left cX5_left 2 (some .int), Cond.methodLink RX5 99 yX5_dealNumbered, Cond.instanceMethod yX5_dealNumbered, Cond.selects RX5 yX5_dealNumbered yX5_dealNumbered, Cond.code yX5_dealNumbered cX5_dealNumbered 3 (some (.object "Forwardroll$Deal")), Cond.classLink RX5 197 "java/lang/IndexOutOfBoundsException", Cond.initialized "java/lang/IndexOutOfBoundsException", Cond.methodLink RX5 84 yX5_isIndex, Cond.static yX5_isIndex, Cond.code yX5_isIndex cX5_isIndex 2 (some .boolean), Cond.methodLink RL 145 yX5_rate, Cond.instanceMethod yX5_rate, Cond.selects RX5 yX5_rate yX5_rate, Cond.code yX5_rate cX5_rate 2 (some .int), Cond.methodLink RL 148 yX5_window, Cond.instanceMethod yX5_window, Cond.selects RX5 yX5_window yX5_window]
def wsL_law0_r5 : List Cond := [Cond.code yX5_window cX5_window 3 (some .int), Cond.methodLink RL 151 yX5_gain, Cond.instanceMethod yX5_gain, Cond.selects RX5 yX5_gain yX5_gain, Cond.code yX5_gain cX5_gain 2 (some .long), Cond.methodLink RX5 165 yX4_marketGain, Cond.instanceMethod yX4_marketGain, Cond.selects RX4 yX4_marketGain yX4_marketGain, Cond.initialized RX4, Cond.code yX4_marketGain cX4_marketGain 2 (some .long), Cond.methodLink RX4 42 yX4_marketRate, Cond.instanceMethod yX4_marketRate, Cond.selects RX4 yX4_marketRate yX4_marketRate, Cond.code yX4_marketRate cX4_marketRate 2 (some .int), Cond.fieldLink RX4 15 "Forwardroll$Deal" "currency" "LForwardroll$Currency;", Cond.fieldLink RX4 33 "Forwardroll$Deal" "lastDay" "I", Cond.methodLink RX4 36 yX2_forwardRate, Cond.instanceMethod yX2_forwardRate, Cond.selects RX2 yX2_forwardRate yX2_forwardRate, Cond.code yX2_forwardRate cX2_forwardRate 2 (some .int), Cond.methodLink RX2 18 yX2_laterRate, Cond.instanceMethod yX2_laterRate, Cond.selects RX2 yX2_laterRate yX2_laterRate, Cond.code yX2_laterRate cX2_laterRate 3 (some .int)]
def wsL_law0_r6 : List Cond := [Cond.fieldLink RX2 22 "Forwardroll$Currency" "points" "I", Cond.methodLink RX2 25 Lib.Math.max.name, Cond.static Lib.Math.max.name, Cond.initialized "java/lang/Math", Cond.code Lib.Math.max.name Lib.Math.max.code 2 (some .int), Cond.methodLink RX4 45 yX4_gainAt, Cond.instanceMethod yX4_gainAt, Cond.selects RX4 yX4_gainAt yX4_gainAt, Cond.code yX4_gainAt cX4_gainAt 4 (some .long), Cond.fieldLink RX4 23 "Forwardroll$Deal" "amountLeft" "I", Cond.fieldLink RX4 27 "Forwardroll$Deal" "agreedRate" "I", Cond.fieldLink RX4 19 "Forwardroll$Deal" "buys" "Z", Cond.static yX5_homeAmount, Cond.code yX5_homeAmount cX5_homeAmount 2 (some .long), Cond.constantLong RX5 224 (10000), Cond.methodLink RL 154 yL_exposure, Cond.static yL_exposure, Cond.codeWith yL_exposure cL_exposure 5 (some .long) [(0, 6, 9, 14)], Cond.methodLink RL 59 yX5_exposure, Cond.instanceMethod yX5_exposure, Cond.selects RX5 yX5_exposure yX5_exposure, Cond.code yX5_exposure cX5_exposure 3 (some .long), Cond.methodLink RX5 68 yX5_customerNumbered, Cond.instanceMethod yX5_customerNumbered]
def wsL_law0_r7 : List Cond := [Cond.selects RX5 yX5_customerNumbered yX5_customerNumbered, Cond.code yX5_customerNumbered cX5_customerNumbered 3 (some (.object "Forwardroll$Customer")), Cond.methodLink RX5 169 yX5_lossOfAll, Cond.instanceMethod yX5_lossOfAll, Cond.selects RX5 yX5_lossOfAll yX5_lossOfAll, Cond.code yX5_lossOfAll cX5_lossOfAll 9 (some .long), Cond.methodLink RX5 216 yX4_shiftedLoss, Cond.instanceMethod yX4_shiftedLoss, Cond.selects RX4 yX4_shiftedLoss yX4_shiftedLoss, Cond.code yX4_shiftedLoss cX4_shiftedLoss 4 (some .long), Cond.methodLink RX4 49 Lib.Math.max.name, Cond.methodLink RX5 173 yX5_worseLoss, Cond.static yX5_worseLoss, Cond.code yX5_worseLoss cX5_worseLoss 4 (some .long), Cond.methodLink RX5 219 Lib.MathLoose.max_long.x, Cond.static Lib.MathLoose.max_long.x, Cond.code Lib.MathLoose.max_long.x Lib.MathLoose.max_long.code 4 (some .long), Cond.methodLink RL 125 yL_exposes, Cond.static yL_exposes, Cond.code yL_exposes cL_exposes 14 (some .long), Cond.methodLink RL 156 yL_balance, Cond.static yL_balance, Cond.codeWith yL_balance cL_balance 6 (some .long) [(0, 7, 10, 14), (0, 7, 16, 17)], Cond.classLink RL 17 "java/lang/IllegalArgumentException"]
def wsL_law0_r8 : List Cond := [Cond.methodLink RL 68 yX5_balance, Cond.instanceMethod yX5_balance, Cond.selects RX5 yX5_balance yX5_balance, Cond.code yX5_balance cX5_balance 4 (some .long), Cond.methodLink RX5 43 yX5_requireRange, Cond.static yX5_requireRange, Cond.code yX5_requireRange cX5_requireRange 3 none, Cond.classLink RX5 206 "java/lang/IllegalArgumentException", Cond.initialized "java/lang/IllegalArgumentException", Cond.methodLink RX5 184 yX0_amountOf, Cond.instanceMethod yX0_amountOf, Cond.selects RX0 yX0_amountOf yX0_amountOf, Cond.code yX0_amountOf cX0_amountOf 2 (some .long), Cond.methodLink RL 159 yL_due, Cond.static yL_due, Cond.codeWith yL_due cL_due 7 (some .long) [(0, 9, 12, 14), (0, 9, 18, 17)], Cond.methodLink RL 62 yX5_due, Cond.instanceMethod yX5_due, Cond.selects RX5 yX5_due yX5_due, Cond.code yX5_due cX5_due 5 (some .long), Cond.methodLink RX5 177 yX3_netAmount, Cond.instanceMethod yX3_netAmount, Cond.selects RX3 yX3_netAmount yX3_netAmount, Cond.code yX3_netAmount cX3_netAmount 4 (some .long)]
def wsL_law0_r9 : List Cond := [Cond.methodLink RX3 35 yX3_netAmountsOf, Cond.instanceMethod yX3_netAmountsOf, Cond.selects RX3 yX3_netAmountsOf yX3_netAmountsOf, Cond.code yX3_netAmountsOf cX3_netAmountsOf 2 (some (.object "Forwardroll$Amounts")), Cond.methodLink RX3 39 yX0_amountOf, Cond.methodLink RL 99 yL_low, Cond.static yL_low, Cond.code yL_low cL_low 2 (some .int), Cond.methodLink RL 162 yL_forward, Cond.static yL_forward, Cond.codeWith yL_forward cL_forward 5 (some .int) [(0, 7, 10, 14), (0, 7, 15, 17)], Cond.methodLink RL 33 yX5_forward, Cond.instanceMethod yX5_forward, Cond.selects RX5 yX5_forward yX5_forward, Cond.code yX5_forward cX5_forward 4 (some .int), Cond.methodLink RX5 38 yX5_currencyNumbered, Cond.instanceMethod yX5_currencyNumbered, Cond.selects RX5 yX5_currencyNumbered yX5_currencyNumbered, Cond.code yX5_currencyNumbered cX5_currencyNumbered 3 (some (.object "Forwardroll$Currency")), Cond.methodLink RX5 76 yX2_forwardRate, Cond.methodLink RL 116 yX5_today, Cond.instanceMethod yX5_today, Cond.selects RX5 yX5_today yX5_today, Cond.code yX5_today cX5_today 1 (some .int)]
def wsL_law0_r10 : List Cond := [Cond.methodLink RL 164 yX5_settlementDay, Cond.instanceMethod yX5_settlementDay, Cond.selects RX5 yX5_settlementDay yX5_settlementDay, Cond.code yX5_settlementDay cX5_settlementDay 1 (some .int), Cond.methodLink RX5 113 yX1_nextBusinessDay, Cond.instanceMethod yX1_nextBusinessDay, Cond.selects RX1 yX1_nextBusinessDay yX1_nextBusinessDay, Cond.code yX1_nextBusinessDay cX1_nextBusinessDay 2 (some .int), Cond.fieldLink RX1 19 "Forwardroll$Calendar" "today" "I", Cond.methodLink RX1 23 yX1_isBusinessDay, Cond.instanceMethod yX1_isBusinessDay, Cond.selects RX1 yX1_isBusinessDay yX1_isBusinessDay, Cond.code yX1_isBusinessDay cX1_isBusinessDay 3 (some .boolean), Cond.methodLink RL 95 yL_settles, Cond.static yL_settles, Cond.code yL_settles cL_settles 2 (some .int), Cond.methodLink RL 172 yL_cell, Cond.static yL_cell, Cond.code yL_cell cL_cell 2 (some .int), Cond.constant RL 7 (1138477045), Cond.methodLink RL 176 yL_markets, Cond.static yL_markets, Cond.code yL_markets cL_markets 10 (some .boolean), Cond.constant RL 102 (100000)]
def wsL_law0_r11 : List Cond := [Cond.constant RL 106 (100001), Cond.constant RL 109 (100000000), Cond.constant RL 112 (100000001), Cond.constant RL 29 (-2000000073), Cond.methodLink RL 103 yL_setRate, Cond.static yL_setRate, Cond.codeWith yL_setRate cL_setRate 5 (some .int) [(0, 7, 10, 14), (0, 7, 15, 17)], Cond.methodLink RL 8 yX5_setRate, Cond.instanceMethod yX5_setRate, Cond.selects RX5 yX5_setRate yX5_setRate, Cond.code yX5_setRate cX5_setRate 5 (some .int), Cond.constant RX5 42 (100000), Cond.methodLink RL 107 yL_setPoints, Cond.static yL_setPoints, Cond.codeWith yL_setPoints cL_setPoints 5 (some .int) [(0, 7, 10, 14), (0, 7, 15, 17)], Cond.methodLink RL 20 yX5_setPoints, Cond.instanceMethod yX5_setPoints, Cond.selects RX5 yX5_setPoints yX5_setPoints, Cond.code yX5_setPoints cX5_setPoints 5 (some .int), Cond.methodLink RL 110 yL_setLimit, Cond.static yL_setLimit, Cond.codeWith yL_setLimit cL_setLimit 5 (some .int) [(0, 7, 10, 14), (0, 7, 15, 17)], Cond.methodLink RL 30 yX5_setLimit, Cond.instanceMethod yX5_setLimit]
def wsL_law0_r12 : List Cond := [Cond.selects RX5 yX5_setLimit yX5_setLimit, Cond.code yX5_setLimit cX5_setLimit 5 (some .int), Cond.constant RX5 72 (100000000), Cond.methodLink RL 113 yL_toggleHoliday, Cond.static yL_toggleHoliday, Cond.codeWith yL_toggleHoliday cL_toggleHoliday 4 (some .int) [(0, 6, 9, 17), (0, 6, 13, 27)], Cond.classLink RL 27 "java/lang/IllegalStateException", Cond.methodLink RL 23 yX5_toggleHoliday, Cond.instanceMethod yX5_toggleHoliday, Cond.selects RX5 yX5_toggleHoliday yX5_toggleHoliday, Cond.code yX5_toggleHoliday cX5_toggleHoliday 2 (some .boolean), Cond.classLink RX5 57 "java/lang/IllegalStateException", Cond.initialized "java/lang/IllegalStateException", Cond.methodLink RX5 64 yX1_flipHoliday, Cond.instanceMethod yX1_flipHoliday, Cond.selects RX1 yX1_flipHoliday yX1_flipHoliday, Cond.code yX1_flipHoliday cX1_flipHoliday 2 (some .boolean), Cond.methodLink RL 180 yL_deals, Cond.static yL_deals, Cond.code yL_deals cL_deals 19 (some .boolean), Cond.constant RL 124 (1000001), Cond.constantLong RL 53 (-2000000073), Cond.methodLink RL 121 yL_deal, Cond.static yL_deal]
def wsL_law0_r13 : List Cond := [Cond.codeWith yL_deal cL_deal 9 (some .int) [(0, 15, 18, 14), (0, 15, 23, 17), (0, 15, 28, 27)], Cond.methodLink RL 36 yX5_deal, Cond.instanceMethod yX5_deal, Cond.selects RX5 yX5_deal yX5_deal, Cond.code yX5_deal cX5_deal 12 (some .int), Cond.constant RX5 80 (1000000), Cond.fieldLink RX5 81 "Forwardroll" "dealCount" "I", Cond.instantiable RX4 7, Cond.methodLink RX5 90 yX4_init, Cond.instanceMethod yX4_init, Cond.code yX4_init cX4_init 8 none, Cond.methodLink RX4 3 objectInit, Cond.fieldLink RX4 9 "Forwardroll$Deal" "customer" "LForwardroll$Customer;", Cond.fieldLink RX4 30 "Forwardroll$Deal" "firstDay" "I", Cond.methodLink RX5 93 yX5_exposureWith, Cond.instanceMethod yX5_exposureWith, Cond.selects RX5 yX5_exposureWith yX5_exposureWith, Cond.code yX5_exposureWith cX5_exposureWith 4 (some .long), Cond.methodLink RL 129 yL_draw, Cond.static yL_draw, Cond.codeWith yL_draw cL_draw 5 (some .int) [(0, 7, 10, 14), (0, 7, 15, 17)], Cond.methodLink RL 40 yX5_draw, Cond.instanceMethod yX5_draw, Cond.selects RX5 yX5_draw yX5_draw]
def wsL_law0_r14 : List Cond := [Cond.code yX5_draw cX5_draw 8 (some .int), Cond.methodLink RX5 106 yX4_drawingRate, Cond.instanceMethod yX4_drawingRate, Cond.selects RX4 yX4_drawingRate yX4_drawingRate, Cond.code yX4_drawingRate cX4_drawingRate 2 (some .int), Cond.methodLink RX4 55 yX2_laterRate, Cond.methodLink RX5 109 yX5_homeAmount, Cond.methodLink RX5 132 yX3_book, Cond.instanceMethod yX3_book, Cond.selects RX3 yX3_book yX3_book, Cond.code yX3_book cX3_book 6 none, Cond.methodLink RX3 31 yX0_add, Cond.instanceMethod yX0_add, Cond.selects RX0 yX0_add yX0_add, Cond.code yX0_add cX0_add 4 none, Cond.methodLink RL 131 yL_roll, Cond.static yL_roll, Cond.codeWith yL_roll cL_roll 6 (some .int) [(0, 9, 12, 14), (0, 9, 17, 17), (0, 9, 22, 27)], Cond.methodLink RL 43 yX5_roll, Cond.instanceMethod yX5_roll, Cond.selects RX5 yX5_roll yX5_roll, Cond.code yX5_roll cX5_roll 5 (some .int), Cond.methodLink RX5 136 yX5_requireLeft, Cond.static yX5_requireLeft]
def wsL_law0_r15 : List Cond := [Cond.code yX5_requireLeft cX5_requireLeft 1 none, Cond.methodLink RX5 145 yX5_bookGain, Cond.instanceMethod yX5_bookGain, Cond.selects RX5 yX5_bookGain yX5_bookGain, Cond.code yX5_bookGain cX5_bookGain 4 (some .long), Cond.methodLink RX5 149 yX4_moveWindow, Cond.instanceMethod yX4_moveWindow, Cond.selects RX4 yX4_moveWindow yX4_moveWindow, Cond.code yX4_moveWindow cX4_moveWindow 2 none, Cond.methodLink RX5 152 yX4_marketRate, Cond.methodLink RX5 158 yX2_laterRate, Cond.methodLink RL 134 yL_closeOut, Cond.static yL_closeOut, Cond.codeWith yL_closeOut cL_closeOut 5 (some .long) [(0, 6, 9, 14), (0, 6, 15, 27)], Cond.methodLink RL 47 yX5_closeOut, Cond.instanceMethod yX5_closeOut, Cond.selects RX5 yX5_closeOut yX5_closeOut, Cond.code yX5_closeOut cX5_closeOut 5 (some .long), Cond.methodLink RL 137 yL_owe, Cond.static yL_owe, Cond.code yL_owe cL_owe 6 none, Cond.methodLink RL 184 yL_passes, Cond.static yL_passes, Cond.code yL_passes cL_passes 13 (some .boolean)]
def wsL_law0_r16 : List Cond := [Cond.methodLink RL 141 yL_pass, Cond.static yL_pass, Cond.codeWith yL_pass cL_pass 4 (some .int) [(0, 6, 9, 17), (0, 6, 13, 27)], Cond.methodLink RL 72 yX5_pass, Cond.instanceMethod yX5_pass, Cond.selects RX5 yX5_pass yX5_pass, Cond.code yX5_pass cX5_pass 4 (some .int), Cond.methodLink RX5 191 yX5_endDealsOfToday, Cond.instanceMethod yX5_endDealsOfToday, Cond.selects RX5 yX5_endDealsOfToday yX5_endDealsOfToday, Cond.code yX5_endDealsOfToday cX5_endDealsOfToday 6 (some .int), Cond.methodLink RX5 194 yX5_settleAll, Cond.instanceMethod yX5_settleAll, Cond.selects RX5 yX5_settleAll yX5_settleAll, Cond.code yX5_settleAll cX5_settleAll 6 none, Cond.methodLink RX5 213 yX3_settle, Cond.instanceMethod yX3_settle, Cond.selects RX3 yX3_settle yX3_settle, Cond.code yX3_settle cX3_settle 3 none, Cond.methodLink RX3 43 yX0_addAll, Cond.instanceMethod yX0_addAll, Cond.selects RX0 yX0_addAll yX0_addAll, Cond.code yX0_addAll cX0_addAll 3 none, Cond.methodLink RX0 19 yX0_amountOf]
def wsL_law0_r17 : List Cond := [Cond.methodLink RX0 23 yX0_add]
def wsL_law0 : List Cond := (wsL_law0_r1 ++ (wsL_law0_r2 ++ (wsL_law0_r3 ++ (wsL_law0_r4 ++ (wsL_law0_r5 ++ (wsL_law0_r6 ++ (wsL_law0_r7 ++ (wsL_law0_r8 ++ (wsL_law0_r9 ++ (wsL_law0_r10 ++ (wsL_law0_r11 ++ (wsL_law0_r12 ++ (wsL_law0_r13 ++ (wsL_law0_r14 ++ (wsL_law0_r15 ++ (wsL_law0_r16 ++ wsL_law0_r17)))))))))))))))) ++ wsX50 ++ wsX10 ++ wsX20 ++ wsX30 ++ wsX00 ++ wsX40 ++ ([] : List Cond)
def wsL_law : List Cond := wsL_law0 ++ (vx_atS RX5 201 "java/lang/IndexOutOfBoundsException" ["java/lang/RuntimeException", "java/lang/Exception"]).filter goodWord ++ (vx_atS RX5 210 "java/lang/IllegalArgumentException" ["java/lang/RuntimeException", "java/lang/Exception"]).filter goodWord ++ (vx_atS RX5 61 "java/lang/IllegalStateException" ["java/lang/RuntimeException", "java/lang/Exception"]).filter goodWord
abbrev vwCl : List vw_C := [(RX0, TX0, 1), (RX1, TX1, 2), (RX2, TX2, 3), (RX3, TX3, 3), (RX4, TX4, 7), (RX5, TX5, 5)]
