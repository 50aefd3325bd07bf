section
-- ===== PART A: goes FIRST, ahead of the names: the tables' words, and 'selects' of the private methods out of them =====
/-- a private method of a class that the tables say can be made, by its rows of tables_1 -/
def lw_okq (q : MethodName × Nat) : Prop := (q.1.cls ≠ "java/lang/invoke/MethodHandle" ∧ q.1.cls ≠ "java/lang/invoke/VarHandle") ∧ Cond.instantiable q.1.cls q.2 ∈ tables_1 ∧ Cond.privateMethod q.1 ∈ tables_1 ∧ Cond.instanceMethod q.1 ∈ tables_1
theorem lw_p0 : lw_okq (⟨"Forwardroll", "currencyNumbered", "(I)LForwardroll$Currency;"⟩, 5) := ⟨⟨by decide +kernel, by decide +kernel⟩, List.mem_of_getElem? (i := 16) (by decide +kernel), List.mem_of_getElem? (i := 137) (by decide +kernel), List.mem_of_getElem? (i := 138) (by decide +kernel)⟩
theorem lw_p1 : lw_okq (⟨"java/lang/Throwable", "fillInStackTrace", "(I)Ljava/lang/Throwable;"⟩, 6) := ⟨⟨by decide +kernel, by decide +kernel⟩, List.mem_of_getElem? (i := 180) (by decide +kernel), List.mem_of_getElem? (i := 178) (by decide +kernel), List.mem_of_getElem? (i := 179) (by decide +kernel)⟩
theorem lw_p2 : lw_okq (⟨"Forwardroll", "customerNumbered", "(I)LForwardroll$Customer;"⟩, 5) := ⟨⟨by decide +kernel, by decide +kernel⟩, List.mem_of_getElem? (i := 16) (by decide +kernel), List.mem_of_getElem? (i := 272) (by decide +kernel), List.mem_of_getElem? (i := 273) (by decide +kernel)⟩
theorem lw_p3 : lw_okq (⟨"Forwardroll", "exposureWith", "(LForwardroll$Customer;LForwardroll$Deal;)J"⟩, 5) := ⟨⟨by decide +kernel, by decide +kernel⟩, List.mem_of_getElem? (i := 16) (by decide +kernel), List.mem_of_getElem? (i := 339) (by decide +kernel), List.mem_of_getElem? (i := 340) (by decide +kernel)⟩
theorem lw_p4 : lw_okq (⟨"Forwardroll", "lossOfAll", "(LForwardroll$Customer;I)J"⟩, 5) := ⟨⟨by decide +kernel, by decide +kernel⟩, List.mem_of_getElem? (i := 16) (by decide +kernel), List.mem_of_getElem? (i := 343) (by decide +kernel), List.mem_of_getElem? (i := 344) (by decide +kernel)⟩
theorem lw_p5 : lw_okq (⟨"Forwardroll$Deal", "gainAt", "(I)J"⟩, 7) := ⟨⟨by decide +kernel, by decide +kernel⟩, List.mem_of_getElem? (i := 304) (by decide +kernel), List.mem_of_getElem? (i := 357) (by decide +kernel), List.mem_of_getElem? (i := 358) (by decide +kernel)⟩
theorem lw_p6 : lw_okq (⟨"Forwardroll", "dealNumbered", "(I)LForwardroll$Deal;"⟩, 5) := ⟨⟨by decide +kernel, by decide +kernel⟩, List.mem_of_getElem? (i := 16) (by decide +kernel), List.mem_of_getElem? (i := 379) (by decide +kernel), List.mem_of_getElem? (i := 380) (by decide +kernel)⟩
theorem lw_p7 : lw_okq (⟨"Forwardroll", "bookGain", "(LForwardroll$Deal;)J"⟩, 5) := ⟨⟨by decide +kernel, by decide +kernel⟩, List.mem_of_getElem? (i := 16) (by decide +kernel), List.mem_of_getElem? (i := 412) (by decide +kernel), List.mem_of_getElem? (i := 413) (by decide +kernel)⟩
theorem lw_p8 : lw_okq (⟨"Forwardroll", "endDeal", "(LForwardroll$Deal;)J"⟩, 5) := ⟨⟨by decide +kernel, by decide +kernel⟩, List.mem_of_getElem? (i := 16) (by decide +kernel), List.mem_of_getElem? (i := 433) (by decide +kernel), List.mem_of_getElem? (i := 434) (by decide +kernel)⟩
theorem lw_p9 : lw_okq (⟨"Forwardroll", "endDealsOfToday", "()I"⟩, 5) := ⟨⟨by decide +kernel, by decide +kernel⟩, List.mem_of_getElem? (i := 16) (by decide +kernel), List.mem_of_getElem? (i := 507) (by decide +kernel), List.mem_of_getElem? (i := 508) (by decide +kernel)⟩
theorem lw_p10 : lw_okq (⟨"Forwardroll", "settleAll", "(I)V"⟩, 5) := ⟨⟨by decide +kernel, by decide +kernel⟩, List.mem_of_getElem? (i := 16) (by decide +kernel), List.mem_of_getElem? (i := 511) (by decide +kernel), List.mem_of_getElem? (i := 512) (by decide +kernel)⟩
theorem lw_p11 : lw_okq (⟨"ForwardrollModel", "forwardFor", "(II)I"⟩, 16) := ⟨⟨by decide +kernel, by decide +kernel⟩, List.mem_of_getElem? (i := 525) (by decide +kernel), List.mem_of_getElem? (i := 617) (by decide +kernel), List.mem_of_getElem? (i := 618) (by decide +kernel)⟩
theorem lw_p12 : lw_okq (⟨"ForwardrollModel", "exposureOf", "(I)J"⟩, 16) := ⟨⟨by decide +kernel, by decide +kernel⟩, List.mem_of_getElem? (i := 525) (by decide +kernel), List.mem_of_getElem? (i := 629) (by decide +kernel), List.mem_of_getElem? (i := 630) (by decide +kernel)⟩
theorem lw_p13 : lw_okq (⟨"ForwardrollModel", "valueAt", "(II)J"⟩, 16) := ⟨⟨by decide +kernel, by decide +kernel⟩, List.mem_of_getElem? (i := 525) (by decide +kernel), List.mem_of_getElem? (i := 633) (by decide +kernel), List.mem_of_getElem? (i := 634) (by decide +kernel)⟩
theorem lw_p14 : lw_okq (⟨"ForwardrollModel", "gainOf", "(III)J"⟩, 16) := ⟨⟨by decide +kernel, by decide +kernel⟩, List.mem_of_getElem? (i := 525) (by decide +kernel), List.mem_of_getElem? (i := 637) (by decide +kernel), List.mem_of_getElem? (i := 638) (by decide +kernel)⟩
theorem lw_p15 : lw_okq (⟨"ForwardrollModel", "isDeal", "(I)Z"⟩, 16) := ⟨⟨by decide +kernel, by decide +kernel⟩, List.mem_of_getElem? (i := 525) (by decide +kernel), List.mem_of_getElem? (i := 649) (by decide +kernel), List.mem_of_getElem? (i := 650) (by decide +kernel)⟩
def lw_privs_1 : List (MethodName × Nat) := [(⟨"Forwardroll", "currencyNumbered", "(I)LForwardroll$Currency;"⟩, 5), (⟨"java/lang/Throwable", "fillInStackTrace", "(I)Ljava/lang/Throwable;"⟩, 6), (⟨"Forwardroll", "customerNumbered", "(I)LForwardroll$Customer;"⟩, 5), (⟨"Forwardroll", "exposureWith", "(LForwardroll$Customer;LForwardroll$Deal;)J"⟩, 5), (⟨"Forwardroll", "lossOfAll", "(LForwardroll$Customer;I)J"⟩, 5), (⟨"Forwardroll$Deal", "gainAt", "(I)J"⟩, 7), (⟨"Forwardroll", "dealNumbered", "(I)LForwardroll$Deal;"⟩, 5), (⟨"Forwardroll", "bookGain", "(LForwardroll$Deal;)J"⟩, 5), (⟨"Forwardroll", "endDeal", "(LForwardroll$Deal;)J"⟩, 5), (⟨"Forwardroll", "endDealsOfToday", "()I"⟩, 5), (⟨"Forwardroll", "settleAll", "(I)V"⟩, 5), (⟨"ForwardrollModel", "forwardFor", "(II)I"⟩, 16), (⟨"ForwardrollModel", "exposureOf", "(I)J"⟩, 16), (⟨"ForwardrollModel", "valueAt", "(II)J"⟩, 16), (⟨"ForwardrollModel", "gainOf", "(III)J"⟩, 16), (⟨"ForwardrollModel", "isDeal", "(I)Z"⟩, 16)]
theorem lw_r1 : ∀ q ∈ lw_privs_1, lw_okq q := List.forall_mem_cons.mpr ⟨lw_p0, List.forall_mem_cons.mpr ⟨lw_p1, List.forall_mem_cons.mpr ⟨lw_p2, List.forall_mem_cons.mpr ⟨lw_p3, List.forall_mem_cons.mpr ⟨lw_p4, List.forall_mem_cons.mpr ⟨lw_p5, List.forall_mem_cons.mpr ⟨lw_p6, List.forall_mem_cons.mpr ⟨lw_p7, List.forall_mem_cons.mpr ⟨lw_p8, List.forall_mem_cons.mpr ⟨lw_p9, List.forall_mem_cons.mpr ⟨lw_p10, List.forall_mem_cons.mpr ⟨lw_p11, List.forall_mem_cons.mpr ⟨lw_p12, List.forall_mem_cons.mpr ⟨lw_p13, List.forall_mem_cons.mpr ⟨lw_p14, List.forall_mem_cons.mpr ⟨lw_p15, fun _ h => absurd h List.not_mem_nil⟩⟩⟩⟩⟩⟩⟩⟩⟩⟩⟩⟩⟩⟩⟩⟩
theorem lw_p16 : lw_okq (⟨"ForwardrollModel", "owes", "(IIJ)V"⟩, 16) := ⟨⟨by decide +kernel, by decide +kernel⟩, List.mem_of_getElem? (i := 525) (by decide +kernel), List.mem_of_getElem? (i := 653) (by decide +kernel), List.mem_of_getElem? (i := 654) (by decide +kernel)⟩
theorem lw_p17 : lw_okq (⟨"ForwardrollModel", "settles", "()I"⟩, 16) := ⟨⟨by decide +kernel, by decide +kernel⟩, List.mem_of_getElem? (i := 525) (by decide +kernel), List.mem_of_getElem? (i := 657) (by decide +kernel), List.mem_of_getElem? (i := 658) (by decide +kernel)⟩
theorem lw_p18 : lw_okq (⟨"ForwardrollModel", "isBusiness", "(I)Z"⟩, 16) := ⟨⟨by decide +kernel, by decide +kernel⟩, List.mem_of_getElem? (i := 525) (by decide +kernel), List.mem_of_getElem? (i := 661) (by decide +kernel), List.mem_of_getElem? (i := 662) (by decide +kernel)⟩
theorem lw_p19 : lw_okq (⟨"ForwardrollModel", "gainNow", "(I)J"⟩, 16) := ⟨⟨by decide +kernel, by decide +kernel⟩, List.mem_of_getElem? (i := 525) (by decide +kernel), List.mem_of_getElem? (i := 669) (by decide +kernel), List.mem_of_getElem? (i := 670) (by decide +kernel)⟩
theorem lw_p20 : lw_okq (⟨"ForwardrollModel", "closes", "(I)J"⟩, 16) := ⟨⟨by decide +kernel, by decide +kernel⟩, List.mem_of_getElem? (i := 525) (by decide +kernel), List.mem_of_getElem? (i := 677) (by decide +kernel), List.mem_of_getElem? (i := 678) (by decide +kernel)⟩
theorem lw_p21 : lw_okq (⟨"ForwardrollModel", "asks", "(I)Z"⟩, 16) := ⟨⟨by decide +kernel, by decide +kernel⟩, List.mem_of_getElem? (i := 525) (by decide +kernel), List.mem_of_getElem? (i := 685) (by decide +kernel), List.mem_of_getElem? (i := 686) (by decide +kernel)⟩
theorem lw_p22 : lw_okq (⟨"ForwardrollModel", "passes", "()I"⟩, 16) := ⟨⟨by decide +kernel, by decide +kernel⟩, List.mem_of_getElem? (i := 525) (by decide +kernel), List.mem_of_getElem? (i := 721) (by decide +kernel), List.mem_of_getElem? (i := 722) (by decide +kernel)⟩
def lw_privs_2 : List (MethodName × Nat) := [(⟨"ForwardrollModel", "owes", "(IIJ)V"⟩, 16), (⟨"ForwardrollModel", "settles", "()I"⟩, 16), (⟨"ForwardrollModel", "isBusiness", "(I)Z"⟩, 16), (⟨"ForwardrollModel", "gainNow", "(I)J"⟩, 16), (⟨"ForwardrollModel", "closes", "(I)J"⟩, 16), (⟨"ForwardrollModel", "asks", "(I)Z"⟩, 16), (⟨"ForwardrollModel", "passes", "()I"⟩, 16)]
theorem lw_r2 : ∀ q ∈ lw_privs_2, lw_okq q := List.forall_mem_cons.mpr ⟨lw_p16, List.forall_mem_cons.mpr ⟨lw_p17, List.forall_mem_cons.mpr ⟨lw_p18, List.forall_mem_cons.mpr ⟨lw_p19, List.forall_mem_cons.mpr ⟨lw_p20, List.forall_mem_cons.mpr ⟨lw_p21, List.forall_mem_cons.mpr ⟨lw_p22, fun _ h => absurd h List.not_mem_nil⟩⟩⟩⟩⟩⟩⟩
def lw_privs : List (MethodName × Nat) := lw_privs_1 ++ (lw_privs_2)
def lw_tbl : List Cond := k2_sels lw_privs ++ tables_1
theorem lw_privs_ok : ∀ q ∈ lw_privs, lw_okq q := by
  show ∀ q ∈ lw_privs_1 ++ (lw_privs_2), lw_okq q
  exact List.forall_mem_append.mpr ⟨lw_r1, lw_r2⟩
-- ===== end of PART A; then your names; then what follows =====
/-! ===== BEGIN words of one list among another's, by their places ===== -/
theorem goodIn_r {big : List Cond} (ws : List Cond) (ps : List Nat) (hp : ws = ps.filterMap (fun i => big[i]?)) (h : ws.all goodWord = true) : GoodIn big ws := by
  intro w hw
  have h1 := List.all_eq_true.mp h w hw
  rw [hp] at hw
  obtain ⟨i, -, hi⟩ := List.mem_filterMap.mp hw
  have hm : w ∈ big := by first | exact List.mem_of_getElem? hi | exact List.getElem?_mem hi
  exact ⟨hm, good_of_word h1⟩
theorem goodIn_app {big a b : List Cond} (ha : GoodIn big a) (hb : GoodIn big b) : GoodIn big (a ++ b) := fun w h => (List.mem_append.mp h).elim (ha w) (hb w)
theorem goodIn_ca {big a b : List Cond} {c : Cond} (ha : GoodIn big (c :: a)) (hb : GoodIn big b) : GoodIn big (c :: (a ++ b)) := fun w h => (List.mem_cons.mp h).elim (fun e => ha w (List.mem_cons.mpr (Or.inl e))) (fun h => (List.mem_append.mp h).elim (fun h => ha w (List.mem_cons.mpr (Or.inr h))) (hb w))
theorem goodIn_sub {big ws : List Cond} (hm : ∀ w ∈ ws, w ∈ big) (h : ws.all goodWord = true) : GoodIn big ws := fun w hw => ⟨hm w hw, good_of_word (List.all_eq_true.mp h w hw)⟩
/-! ===== END ===== -/

/-! ===== BEGIN exceptions that leave a method, and their catching by the caller (launches without stack traces) ===== -/
section VXA
/-! The laws vx_back, vx_callV, vx_callS, vx_callSW, vx_throw0, vx_throwS follow proofs of the library, with one case more: JvmDerived/Free/Laws.lean (Back.of_free), Shelf42/LK1.lean (callV, callS), Shelf/KitTraced.lean (throwNew0V, throwNewS). -/
/-- where a method has thrown q: the class by its name, the cell, what was written, the world -/
def vx_T (XC : String → State → State → Prop) (st : State) (q : Addr) (t : State) (mc ms : Nat) (free : Addr → Prop) : Prop :=
  ∃ (E : String) (ce : Cell) (L : List Loc), XC E st t ∧ t.heap[q]? = some ce ∧ ce.vm = .none ∧ st.vm.findClass E = some ce.cls ∧ st.WarmedH t.vm ∧ st.sameButNew ({ t with vm := st.vm } : State) L mc ms ∧ ∀ z ∈ L, free z.base
def vx_Q (Qc : Array Value → State → Outcome → State → Prop) (XC : String → State → State → Prop) (mc ms : Nat) (free : Addr → Prop) : Array Value → State → Outcome → State → Prop := fun a st o t =>
  (Qc a st o t ∧ ∃ L, FrameEnd st o t L mc ms ∧ ∀ q ∈ L, free q.base) ∨ ∃ q, o = .threw q ∧ vx_T XC st q t mc ms free
/-- a callee that returns or throws -/
def vx_Met (l : Launch) (y : MethodName) (ws : List Cond) (rm : Room) (Pc : Array Value → State → Prop) (Qc : Array Value → State → Outcome → State → Prop) (XC : String → State → State → Prop) (mc ms : Nat) (free : Addr → Prop) : Prop :=
  MetFree l y (headSpec ws rm) Pc (fun _ _ _ _ _ => True) (vx_Q Qc XC mc ms free)
def vx_Post (XC : String → State → State → Prop) (mc ms : Nat) (free : Addr → Prop) : Pt → Array Value → Addr → Pt → Prop := fun A a q B =>
  ∃ (g : JFrame) (mk : MethodId) (t : State) (L : List Loc) (E : String) (ce : Cell), B.U.heap = t.heap ∧ B.U.vm = t.vm ∧ XC E (A.U.calling g mk a) t ∧ t.heap[q]? = some ce ∧ ce.vm = .none ∧ A.U.vm.findClass E = some ce.cls ∧ B.locs = A.locs ++ L ∧ (∀ z ∈ L, free z.base) ∧ B.cells = A.cells + mc ∧ B.slots = A.slots + ms
def vx_Back (l : Launch) (R : Room) (p : Program) (e : Env) (below : List Frame) (s : State) (sargs : Array Value) (y : MethodName) (len W9 : Nat)
    (Pre : Pt → Array Value → Prop) (Post : Pt → Array Value → Option Value → Pt → Prop) (PostX : Pt → Array Value → Addr → Pt → Prop) : Prop :=
  ∀ (m : MethodId) (meth : Method) (c : Code) (A : Pt) (g : JFrame) (ig : Instr) (mk : MethodId) (a : Array Value),
    Stand p l e R s m sargs below meth c A.U A.locs A.cells A.slots → g.method = m → g.locals.size = c.maxLocals → decode c.code g.pc = .ok (ig, len) →
    2 * g.monitorRoom + (g.stack.map fun v => v.category).sum ≤ W9 → A.U.methodNamed? y = some mk → Pre A a →
    (∃ (v : Option Value) (B : Pt), Stand p l e R s m sargs below meth c B.U B.locs B.cells B.slots ∧ Post A a v B ∧
      Steps p.tables e below (doInvoke e (A.U.setTop g) [] mk a).1 (B.U.setTop { g with pc := g.pc + len, stack := v.toList ++ g.stack })) ∨
    (∃ (q : Addr) (B : Pt), Stand p l e R s m sargs below meth c B.U B.locs B.cells B.slots ∧ PostX A a q B ∧
      Steps p.tables e below (doInvoke e (A.U.setTop g) [] mk a).1 ((B.U.setTop g).pushFrame (.throwing q)))
section Payer
variable {l : Launch} {R : Room} {p : Program} {e : Env} {below : List Frame} {s : State} {sargs : Array Value} {y : MethodName} {len W9 : Nat}
theorem vx_back {ws : List Cond} {rm : Room} {Pc : Array Value → State → Prop} {Qc : Array Value → State → Outcome → State → Prop} {XC : String → State → State → Prop} {mc ms : Nat} {free : Addr → Prop} {bytes : ByteArray} {maxL : Nat} {ret : Option FieldType}
    (hM : vx_Met l y ws rm Pc Qc XC mc ms free) (hblind : FrameBlind Pc) (hrc : rm.cells = mc) (hrs : rm.slots = ms)
    (hframes : rm.frames + 1 ≤ R.frames) (hlocals : W9 + (maxL + 11) + rm.locals ≤ R.locals)
    (hws : ∀ w ∈ ws, ∀ a' U, s.WarmedH U.vm → w.before a' U = true) (hcode : Cond.code y bytes maxL ret ∈ ws) (hinit : ∀ a' U, s.WarmedH U.vm → (Cond.initialized y.cls).before a' U = true) :
    vx_Back l R p e below s sargs y len W9 (PreOf R mc ms Pc) (PostOf Qc mc ms free) (vx_Post XC mc ms free) := by
  intro m meth c A g ig mk a X hg hsize hdg hW hn hp
  have h1 : (headSpec ws rm).pre.before a A.U = true := atoms_intro fun w hw => hws w hw _ _ X.warmed
  have h2 : (Cond.code y bytes maxL ret).before a A.U = true := hws _ hcode _ _ X.warmed
  have h3 : (Cond.initialized y.cls).before a A.U = true := hinit _ _ X.warmed
  have h4 : A.cells + (headSpec ws rm).room.cells ≤ R.cells := by rw [show (headSpec ws rm).room.cells = mc from hrc]; exact hp.1
  have h5 : A.slots + (headSpec ws rm).room.slots ≤ R.slots := by rw [show (headSpec ws rm).room.slots = ms from hrs]; exact hp.2.1
  have hPc : Pc a (A.U.calling g mk a) := hblind _ _ _ _ hp.2.2
  obtain ⟨U, Ls, c0, s0⟩ := A
  dsimp only [Pt.U, Pt.locs, Pt.cells, Pt.slots] at h1 h2 h3 h4 h5 X hn hPc ⊢
  obtain ⟨methY, cY, hmY, hcY, -, hlY, -, -, -, -⟩ := Cond.code_spec hn h2
  obtain ⟨kY, hkY, -⟩ := className_of_methodNamed hn
  have hinitY : kY.init = .initialized := Cond.initialized_spec (findClass_of_methodNamed hn) hkY h3
  have h : At U g.method c below := by rw [hg]; exact X.here
  have hlocals9 : W9 + (maxL + 11) + (headSpec ws rm).room.locals ≤ R.locals := hlocals
  have happ : (headSpec ws rm).appliesLoose y e.platform (U.calling g mk a) = true :=
    Spec.appliesLoose_calling (g := g) h hdg hn hkY hinitY
      (X.room_calling (g := g) (R' := (headSpec ws rm).room) hsize hmY hcY hframes (by rw [hlY]; omega) h4 h5) h1
  obtain ⟨mid, hmid⟩ := h.above
  have hfr : (U.setTop g).frames = (.java g :: mid) ++ below := by rw [State.frames_setTop' g h.top, hmid]; rfl
  obtain ⟨o, s₂, hsteps, -, hend, hq⟩ := Steps.callFree hM p X.admits X.cas X.clock (acts := []) hfr happ hPc trivial
  have hq' : vx_Q Qc XC mc ms free a (U.calling g mk a) o s₂ := hq
  rw [State.frames_setTop' g h.top] at hend
  obtain ⟨g₀, hg0⟩ := Option.isSome_iff_exists.mp h.top
  obtain ⟨r, hr⟩ := State.topJava?_eq_some.mp hg0
  have hr' : (({ U with heap := s₂.heap, slotsUsed := s₂.slotsUsed } : State).setVm s₂.vm).frames = .java g₀ :: r := hr
  rcases hq' with ⟨hqc, L, hfe, hL⟩ | ⟨q, rfl, E, ce, L, hx, hce, hcv, hcl, hW₂, hsm, hL⟩
  · obtain ⟨⟨v, rfl⟩, hW₂, e2, q2, q3, q4, q5, q6⟩ := id hfe
    have e3 : s₂ = ({ (U.calling g mk a).setFrames s₂.frames with heap := s₂.heap, slotsUsed := s₂.slotsUsed } : State).setVm s₂.vm := by
      have : s₂ = ({ s₂ with vm := (U.calling g mk a).vm } : State).setVm s₂.vm := rfl
      rw [e2] at this
      exact this
    obtain ⟨c₂, i₂, len₂, hc₂, hd₂, hf₂⟩ := hend
    have hW' : U.WarmedH s₂.vm := hW₂
    have hcc : c₂ = c := by
      have h1 : s₂.code? g.method = U.code? g.method := by
        rw [State.code?_eq, State.code?_eq, hW'.alike.method?]
      exact Option.some.inj (hc₂.symm.trans (h1.trans h.code))
    subst hcc
    have hlen : len₂ = len := by rw [hdg] at hd₂; cases hd₂; rfl
    subst hlen
    have hs₂ : s₂ = (({ U with heap := s₂.heap, slotsUsed := s₂.slotsUsed } : State).setVm s₂.vm).setTop { g with pc := g.pc + len₂, stack := v.toList ++ g.stack } := by
      refine e3.trans ?_
      rw [hf₂, State.calling_eq h.top, State.setFrames_setFrames, State.setTop_of_frames _ hr', hr]
      rfl
    have hsame : U.sameButNew ({ U with heap := s₂.heap, slotsUsed := s₂.slotsUsed } : State) L mc ms := by
      refine ⟨?_, q2, q3, q4, q5, q6⟩
      obtain ⟨t, ht, -⟩ := State.frames_cons hr
      show ({ U with heap := s₂.heap, slotsUsed := s₂.slotsUsed } : State) = { U.setFrames U.frames with heap := s₂.heap, slotsUsed := s₂.slotsUsed }
      rw [State.setFrames_self ht]
    subst hg
    refine Or.inl ⟨v, ⟨(({ U with heap := s₂.heap, slotsUsed := s₂.slotsUsed } : State).setVm s₂.vm), Ls ++ L, c0 + mc, s0 + ms⟩,
      ⟨X.admits, X.cas, X.clock, X.frames, X.room, X.hears, X.method, X.code, (X.here.setHeapUsed s₂.heap s₂.slotsUsed).setVm hW'.alike, X.tail, State.WarmedH.trans X.warmed hW', X.limits, X.bytes, X.same.trans (hsame.setVm s.vm)⟩,
      ⟨g, mk, s₂, L, rfl, rfl, hqc, rfl, hL, rfl, rfl⟩, ?_⟩
    show Steps p.tables e below _ ((({ U with heap := s₂.heap, slotsUsed := s₂.slotsUsed } : State).setVm s₂.vm).setTop { g with pc := g.pc + len₂, stack := v.toList ++ g.stack })
    rw [← hs₂]
    exact hsteps
  · obtain ⟨e2, q2, q3, q4, q5, q6⟩ := id hsm
    have e3 : s₂ = ({ (U.calling g mk a).setFrames s₂.frames with heap := s₂.heap, slotsUsed := s₂.slotsUsed } : State).setVm s₂.vm := by
      have : s₂ = ({ s₂ with vm := (U.calling g mk a).vm } : State).setVm s₂.vm := rfl
      rw [e2] at this
      exact this
    have hf₂ : s₂.frames = .throwing q :: .java g :: U.frames.tail := hend
    have hW' : U.WarmedH s₂.vm := hW₂
    have hs₂ : s₂ = ((({ U with heap := s₂.heap, slotsUsed := s₂.slotsUsed } : State).setVm s₂.vm).setTop g).pushFrame (.throwing q) := by
      refine e3.trans ?_
      rw [hf₂, State.calling_eq h.top, State.setFrames_setFrames, State.pushFrame, State.frames_setTop _ hr', State.setTop_of_frames _ hr', State.setFrames_setFrames, hr]
      rfl
    have hsame : U.sameButNew ({ U with heap := s₂.heap, slotsUsed := s₂.slotsUsed } : State) L mc ms := by
      refine ⟨?_, q2, q3, q4, q5, q6⟩
      obtain ⟨t, ht, -⟩ := State.frames_cons hr
      show ({ U with heap := s₂.heap, slotsUsed := s₂.slotsUsed } : State) = { U.setFrames U.frames with heap := s₂.heap, slotsUsed := s₂.slotsUsed }
      rw [State.setFrames_self ht]
    subst hg
    refine Or.inr ⟨q, ⟨(({ U with heap := s₂.heap, slotsUsed := s₂.slotsUsed } : State).setVm s₂.vm), Ls ++ L, c0 + mc, s0 + ms⟩,
      ⟨X.admits, X.cas, X.clock, X.frames, X.room, X.hears, X.method, X.code, (X.here.setHeapUsed s₂.heap s₂.slotsUsed).setVm hW'.alike, X.tail, State.WarmedH.trans X.warmed hW', X.limits, X.bytes, X.same.trans (hsame.setVm s.vm)⟩,
      ⟨g, mk, s₂, L, E, ce, rfl, rfl, hx, hce, hcv, hcl, rfl, hL, rfl, rfl⟩, ?_⟩
    show Steps p.tables e below _ (((({ U with heap := s₂.heap, slotsUsed := s₂.slotsUsed } : State).setVm s₂.vm).setTop g).pushFrame (.throwing q))
    rw [← hs₂]
    exact hsteps
end Payer
section Calls
variable {p : Program} {l : Launch} {e : Env} {R : Room} {s : State} {m : MethodId} {args : Array Value} {below : List Frame} {meth : Method} {c : Code} {T : State} {locs : List Loc} {cells slots : Nat}
theorem vx_callV (X : Stand p l e R s m args below meth c T locs cells slots) (hexec : p.tables.exec = Jvm.exec) {own C : String} {index : Nat} {y : MethodName} {bytes : ByteArray} {maxL : Nat} {ret : Option FieldType}
    (hown : s.vm.findClass own = some m.cls) (hlink : (Cond.methodLink own index y).before args s = true) (hinst : (Cond.instanceMethod y).before args s = true) (hsel : (Cond.selects C y y).before args s = true)
    (hcode : (Cond.code y bytes maxL ret).before args s = true) (hy : y.cls ≠ "java/lang/invoke/MethodHandle" ∧ y.cls ≠ "java/lang/invoke/VarHandle")
    {W9 : Nat} {Pre : Pt → Array Value → Prop} {Post : Pt → Array Value → Option Value → Pt → Prop} {PostX : Pt → Array Value → Addr → Pt → Prop} (hK : vx_Back l R p e below s args y 3 W9 Pre Post PostX)
    {b : Addr} {cellB : Cell} (hcell : T.heap[b]? = some cellB) (hobj : cellB.vm.isStatics = false) (hcls : s.vm.findClass C = some cellB.cls)
    {g : JFrame} (hg : g.method = m) (hsize : g.locals.size = c.maxLocals) {argsL rest : List Value} (hlen : ∀ sig, parseMethodDescriptor y.desc = some sig → argsL.length = sig.parameters.length)
    (hstack : g.stack = argsL.reverse ++ .ref b :: rest) (hW : 2 * g.monitorRoom + (rest.map fun v => v.category).sum ≤ W9) (hdg : decode c.code g.pc = .ok (.invokevirtual index, 3))
    (hpre : ∀ vm₁, s.WarmedH vm₁ → Pre ⟨T.setVm vm₁, locs, cells, slots⟩ (Value.ref b :: argsL).toArray) :
    (∃ (v : Option Value) (vm₁ : Vm) (B : Pt), s.WarmedH vm₁ ∧ Stand p l e R s m args below meth c B.U B.locs B.cells B.slots ∧ Post ⟨T.setVm vm₁, locs, cells, slots⟩ (Value.ref b :: argsL).toArray v B ∧
      ∀ target, Steps p.tables e below (B.U.setTop { g with pc := g.pc + 3, stack := v.toList ++ rest }) target → Steps p.tables e below (T.setTop g) target) ∨
    (∃ (q : Addr) (vm₁ : Vm) (B : Pt), s.WarmedH vm₁ ∧ Stand p l e R s m args below meth c B.U B.locs B.cells B.slots ∧ PostX ⟨T.setVm vm₁, locs, cells, slots⟩ (Value.ref b :: argsL).toArray q B ∧
      Steps p.tables e below (T.setTop g) ((B.U.setTop { g with stack := rest }).pushFrame (.throwing q))) := by
  obtain ⟨mk, methM, hnamed, hmethM, hstM, habM⟩ := Cond.instanceMethod_spec hinst
  obtain ⟨methM', cM, hmethM', -, -, -, -, -, -, hsigM⟩ := Cond.code_spec hnamed hcode
  cases hmethM.symm.trans hmethM'
  obtain ⟨c2, r2, m2, q1, q2, q3, q4, kP, hkP, hkPi⟩ := Cond.selects_spec hsel
  cases hcls.symm.trans q1
  cases (State.methodFound?_of_named hnamed hy).symm.trans q2
  cases hnamed.symm.trans q3
  have hselP : selectMethod e.platform s.vm cellB.cls mk = .method mk := by rw [Launch.admits_selectMethod X.admits]; exact q4
  obtain ⟨vm₁, X₁, hstep₁⟩ := X.invokevirtual hexec hown hlink hnamed hmethM hstM hkP hkPi hy (a := b) (cell := cellB) hcell
    (fun z h => by rw [h] at hobj; cases hobj) hselP hmethM habM hkP hkPi (g := g) hg (argsL := argsL) (rest := rest) (hlen _ hsigM) hstack hdg
  rcases hK m meth c ⟨T.setVm vm₁, locs, cells, slots⟩ { g with stack := rest } (.invokevirtual index) mk (Value.ref b :: argsL).toArray X₁ hg hsize hdg hW (X₁.named hnamed) (hpre vm₁ X₁.warmed) with ⟨v, B, X', hpost, hsteps⟩ | ⟨q, B, X', hpost, hsteps⟩
  · exact Or.inl ⟨v, vm₁, B, X₁.warmed, X', hpost, fun target h => hstep₁ _ fun acts => by rw [doInvoke_state]; exact hsteps.trans h⟩
  · exact Or.inr ⟨q, vm₁, B, X₁.warmed, X', hpost, hstep₁ _ fun acts => by rw [doInvoke_state]; exact hsteps⟩
theorem vx_callS (X : Stand p l e R s m args below meth c T locs cells slots) (hexec : p.tables.exec = Jvm.exec) {own : String} {index : Nat} {y : MethodName} {bytes : ByteArray} {maxL : Nat} {ret : Option FieldType}
    (hown : s.vm.findClass own = some m.cls) (hlink : (Cond.methodLink own index y).before args s = true) (hstat : (Cond.static y).before args s = true) (hinit : (Cond.initialized y.cls).before args s = true)
    (hcode : (Cond.code y bytes maxL ret).before args s = true) (hy : y.cls ≠ "java/lang/invoke/MethodHandle" ∧ y.cls ≠ "java/lang/invoke/VarHandle")
    {W9 : Nat} {Pre : Pt → Array Value → Prop} {Post : Pt → Array Value → Option Value → Pt → Prop} {PostX : Pt → Array Value → Addr → Pt → Prop} (hK : vx_Back l R p e below s args y 3 W9 Pre Post PostX)
    {g : JFrame} (hg : g.method = m) (hsize : g.locals.size = c.maxLocals) {argsL rest : List Value} (hlen : ∀ sig, parseMethodDescriptor y.desc = some sig → argsL.length = sig.parameters.length)
    (hstack : g.stack = argsL.reverse ++ rest) (hW : 2 * g.monitorRoom + (rest.map fun v => v.category).sum ≤ W9) (hdg : decode c.code g.pc = .ok (.invokestatic index, 3))
    (hpre : ∀ vm₁, s.WarmedH vm₁ → Pre ⟨T.setVm vm₁, locs, cells, slots⟩ argsL.toArray) :
    (∃ (v : Option Value) (vm₁ : Vm) (B : Pt), s.WarmedH vm₁ ∧ Stand p l e R s m args below meth c B.U B.locs B.cells B.slots ∧ Post ⟨T.setVm vm₁, locs, cells, slots⟩ argsL.toArray v B ∧
      ∀ target, Steps p.tables e below (B.U.setTop { g with pc := g.pc + 3, stack := v.toList ++ rest }) target → Steps p.tables e below (T.setTop g) target) ∨
    (∃ (q : Addr) (vm₁ : Vm) (B : Pt), s.WarmedH vm₁ ∧ Stand p l e R s m args below meth c B.U B.locs B.cells B.slots ∧ PostX ⟨T.setVm vm₁, locs, cells, slots⟩ argsL.toArray q B ∧
      Steps p.tables e below (T.setTop g) ((B.U.setTop { g with stack := rest }).pushFrame (.throwing q))) := by
  obtain ⟨mk, hnamed⟩ := Cond.code_named hcode
  obtain ⟨methM, cM, hmethM, -, -, -, -, -, -, hsigM⟩ := Cond.code_spec hnamed hcode
  have hstatic : methM.isStatic = true := Cond.static_spec hnamed hmethM hstat
  obtain ⟨kP, hkP, -⟩ := className_of_methodNamed hnamed
  have hinitP : kP.init = .initialized := Cond.initialized_spec (findClass_of_methodNamed hnamed) hkP hinit
  obtain ⟨vm₁, X₁, hstep₁⟩ := X.invokestatic hexec hown hlink hnamed hmethM hstatic hkP hinitP hy (g := g) hg (argsL := argsL) (rest := rest) (hlen _ hsigM) hstack hdg
  rcases hK m meth c ⟨T.setVm vm₁, locs, cells, slots⟩ { g with stack := rest } (.invokestatic index) mk argsL.toArray X₁ hg hsize hdg hW (X₁.named hnamed) (hpre vm₁ X₁.warmed) with ⟨v, B, X', hpost, hsteps⟩ | ⟨q, B, X', hpost, hsteps⟩
  · exact Or.inl ⟨v, vm₁, B, X₁.warmed, X', hpost, fun target h => hstep₁ _ fun acts => by rw [doInvoke_state]; exact hsteps.trans h⟩
  · exact Or.inr ⟨q, vm₁, B, X₁.warmed, X', hpost, hstep₁ _ fun acts => by rw [doInvoke_state]; exact hsteps⟩
end Calls
theorem vx_cls {s : State} {T : State} {vm₁ : Vm} {E : String} {k : ClassId} (hW : s.WarmedH vm₁) (h : (T.setVm vm₁).vm.findClass E = some k) : s.vm.findClass E = some k := by
  have h1 : vm₁.findClass E = some k := h
  rw [hW.alike.findClass] at h1
  exact h1
/-- the method's frame g, with q thrown over it -/
def vx_W (p : Program) (l : Launch) (e : Env) (R : Room) (s : State) (m : MethodId) (args : Array Value) (below : List Frame) (meth : Method) (c : Code) (H : Heap) (locs : List Loc) (cells slots : Nat) (Q : State → Prop) (g : JFrame) (q : Addr) : Prop :=
  ∀ T : State, T.heap = H → Stand p l e R s m args below meth c T locs cells slots → ∃ t, Steps p.tables e below ((T.setTop g).pushFrame (.throwing q)) t ∧ Q t
def vx_Run (p : Program) (l : Launch) (e : Env) (R : Room) (s : State) (m : MethodId) (args : Array Value) (below : List Frame) (meth : Method) (c : Code) (H : Heap) (locs : List Loc) (cells slots mc ms : Nat) (g : JFrame) (rest : List Value) (Qa : State → Outcome → State → Prop) (XC : String → State → State → Prop) (free : Addr → Prop) : Prop :=
  ∀ T : State, T.heap = H → Stand p l e R s m args below meth c T locs cells slots →
    (∃ (v : Option Value) (st₀ t T' : State) (L : List Loc), st₀.heap = H ∧ Stand p l e R s m args below meth c T' (locs ++ L) (cells + mc) (slots + ms) ∧ (∀ q ∈ L, free q.base) ∧ T'.heap = t.heap ∧ T'.vm = t.vm ∧ Qa st₀ (.returned v) t ∧
      Goes p e below T g T' { g with pc := g.pc + 3, stack := v.toList ++ rest }) ∨
    (∃ (q : Addr) (st₀ t T' : State) (L : List Loc) (E : String) (ce : Cell), st₀.heap = H ∧ Stand p l e R s m args below meth c T' (locs ++ L) (cells + mc) (slots + ms) ∧ (∀ z ∈ L, free z.base) ∧ T'.heap = t.heap ∧ T'.vm = t.vm ∧ XC E st₀ t ∧ t.heap[q]? = some ce ∧ ce.vm = .none ∧ s.vm.findClass E = some ce.cls ∧
      Steps p.tables e below (T.setTop g) ((T'.setTop { g with stack := rest }).pushFrame (.throwing q)))
def vx_X {S : Type} (px : S → Prop) (B : String → S → State → Prop) (A : Nat → Prop) : String → State → State → Prop := fun E st t => ∃ u : S, px u ∧ B E u t ∧ va_F A st t
section Runs
variable {p : Program} {l : Launch} {e : Env} {R : Room} {s : State} {m : MethodId} {args : Array Value} {below : List Frame} {meth : Method} {c : Code} {H : Heap} {locs : List Loc} {cells slots : Nat}
variable {y : MethodName} {bytes cc : ByteArray} {maxL nL mc ms n index : Nat} {ret : Option FieldType} {ws : List Cond} {rm : Room} {Pc : Array Value → State → Prop} {Qc : Array Value → State → Outcome → State → Prop} {XC : String → State → State → Prop} {free : Addr → Prop} {Ts : List Cond} {own C : String} {b : Addr} {As rest : List Value} {g : JFrame}
theorem vx_callBack (cb : CallB R s args own index y bytes maxL ret ws rm mc ms n) (hM : vx_Met l y ws rm Pc Qc XC mc ms free) (hbl : FrameBlind Pc) : vx_Back l R p e below s args y 3 8 (PreOf R mc ms Pc) (PostOf Qc mc ms free) (vx_Post XC mc ms free) := by
  obtain ⟨hrc, hrs, hfr, hlo, hws, hcw, -, hini, -⟩ := cb
  exact vx_back (bytes := bytes) (maxL := maxL) (ret := ret) hM hbl hrc hrs hfr hlo hws hcw (fun a' U hW => word_at hW (Or.inl (by first | rfl | simp [Cond.onTables, Cond.keeps, Cond.steady])) hini)
theorem vx_runV (S : CallFix p m c cc nL s args Ts own) (hM : vx_Met l y ws rm Pc Qc XC mc ms free) (cw : CallW R s args own C index y bytes maxL ret ws rm mc ms n) (hp : PreV s H C b Pc As)
    (hg : g.method = m) (hn : As.length = n) (hsize : g.locals.size = nL) (hstack : g.stack = As.reverse ++ .ref b :: rest) (hW : 2 * g.monitorRoom + (rest.map fun v => v.category).sum ≤ 8) (hdg : decode cc g.pc = .ok (.invokevirtual index, 3)) (hf : cells + mc ≤ R.cells ∧ slots + ms ≤ R.slots) :
    vx_Run p l e R s m args below meth c H locs cells slots mc ms g rest (Qc (Value.ref b :: As).toArray) XC free := by
  have hK : vx_Back l R p e below s args y 3 8 (PreOf R mc ms Pc) (PostOf Qc mc ms free) (vx_Post XC mc ms free) := vx_callBack cw.1 hM hp.1
  obtain ⟨⟨-, -, -, -, -, -, hcode, -, hy, hlen, hl⟩, hin, hse⟩ := cw
  obtain ⟨hx, hb, hml, ho, -⟩ := S
  obtain ⟨-, ⟨cellB, hcB, hoB, hclB⟩, hPc⟩ := hp
  intro T hT X
  rcases vx_callV X hx (C := C) (bytes := bytes) (maxL := maxL) (ret := ret) ho hl hin hse hcode hy hK (by rw [hT]; exact hcB) hoB hclB hg (hsize.trans hml.symm) (argsL := As) (rest := rest) (fun sig h => hn.trans (hlen sig h)) hstack hW (by rw [hb]; exact hdg)
    (fun vm₁ hW₁ => ⟨hf.1, hf.2, hPc (T.setVm vm₁) hT hW₁⟩) with ⟨v, vm₁, ⟨U', l2, c2, s2⟩, hW₁, X', ⟨g', mk, t, L, e1, e2, hq, h1, hL, h2, h3⟩, st⟩ | ⟨q, vm₁, ⟨U', l2, c2, s2⟩, hW₁, X', ⟨g', mk, t, L, E, ce, e1, e2, hq, hce, hcv, hcl, h1, hL, h2, h3⟩, st⟩
  · dsimp only [Pt.U, Pt.locs, Pt.cells, Pt.slots] at X' e1 e2 h1 h2 h3 st
    subst h1; subst h2; subst h3
    exact Or.inl ⟨v, (T.setVm vm₁).calling g' mk (Value.ref b :: As).toArray, t, U', L, hT, X', hL, e1, e2, hq, st⟩
  · dsimp only [Pt.U, Pt.locs, Pt.cells, Pt.slots] at X' e1 e2 h1 h2 h3 st hcl
    subst h1; subst h2; subst h3
    exact Or.inr ⟨q, (T.setVm vm₁).calling g' mk (Value.ref b :: As).toArray, t, U', L, E, ce, hT, X', hL, e1, e2, hq, hce, hcv, vx_cls hW₁ hcl, st⟩
theorem vx_runS (S : CallFix p m c cc nL s args Ts own) (hM : vx_Met l y ws rm Pc Qc XC mc ms free) (cw : CallB R s args own index y bytes maxL ret ws rm mc ms n ∧ (Cond.static y).before args s = true) (hp : PreS s H Pc As)
    (hg : g.method = m) (hn : As.length = n) (hsize : g.locals.size = nL) (hstack : g.stack = As.reverse ++ rest) (hW : 2 * g.monitorRoom + (rest.map fun v => v.category).sum ≤ 8) (hdg : decode cc g.pc = .ok (.invokestatic index, 3)) (hf : cells + mc ≤ R.cells ∧ slots + ms ≤ R.slots) :
    vx_Run p l e R s m args below meth c H locs cells slots mc ms g rest (Qc As.toArray) XC free := by
  have hK : vx_Back l R p e below s args y 3 8 (PreOf R mc ms Pc) (PostOf Qc mc ms free) (vx_Post XC mc ms free) := vx_callBack cw.1 hM hp.1
  obtain ⟨⟨-, -, -, -, -, -, hcode, hini, hy, hlen, hl⟩, hstt⟩ := cw
  obtain ⟨hx, hb, hml, ho, -⟩ := S
  intro T hT X
  rcases vx_callS X hx (bytes := bytes) (maxL := maxL) (ret := ret) ho hl hstt hini hcode hy hK hg (hsize.trans hml.symm) (argsL := As) (rest := rest) (fun sig h => hn.trans (hlen sig h)) hstack hW (by rw [hb]; exact hdg)
    (fun vm₁ hW₁ => ⟨hf.1, hf.2, hp.2 (T.setVm vm₁) hT hW₁⟩) with ⟨v, vm₁, ⟨U', l2, c2, s2⟩, hW₁, X', ⟨g', mk, t, L, e1, e2, hq, h1, hL, h2, h3⟩, st⟩ | ⟨q, vm₁, ⟨U', l2, c2, s2⟩, hW₁, X', ⟨g', mk, t, L, E, ce, e1, e2, hq, hce, hcv, hcl, h1, hL, h2, h3⟩, st⟩
  · dsimp only [Pt.U, Pt.locs, Pt.cells, Pt.slots] at X' e1 e2 h1 h2 h3 st
    subst h1; subst h2; subst h3
    exact Or.inl ⟨v, (T.setVm vm₁).calling g' mk As.toArray, t, U', L, hT, X', hL, e1, e2, hq, st⟩
  · dsimp only [Pt.U, Pt.locs, Pt.cells, Pt.slots] at X' e1 e2 h1 h2 h3 st hcl
    subst h1; subst h2; subst h3
    exact Or.inr ⟨q, (T.setVm vm₁).calling g' mk As.toArray, t, U', L, E, ce, hT, X', hL, e1, e2, hq, hce, hcv, vx_cls hW₁ hcl, st⟩
end Runs
section Rows
variable {p : Program} {l : Launch} {e : Env} {R : Room} {s : State} {m : MethodId} {args : Array Value} {below : List Frame} {meth : Method} {c : Code} {H : Heap} {locs : List Loc} {cells slots : Nat} {Q : State → Prop}
variable {mc ms : Nat} {free : Addr → Prop} {A0 A1 : Nat → Prop} {H0 : Heap} {a : Array Value} {pc : Nat} {ls : Array Slot} {st0 rest : List Value}
theorem vx_keep {st₀ t T' : State} {L : List Loc} (h0 : st₀.heap = H) (e1 : T'.heap = t.heap) (hS : va_S A0 H0 H locs) (hA : ∀ q, q < H.size → A1 q → A0 q) (hf : ∀ q, free q → A0 q) (hL : ∀ q ∈ L, free q.base) (hF : va_F A1 st₀ t) :
    H.size ≤ T'.heap.size ∧ (∀ q : Nat, q < H.size → ¬ A1 q → T'.heap[q]? = H[q]?) ∧ va_S A0 H0 T'.heap (locs ++ L) := by
  obtain ⟨hz, hk⟩ := hF
  rw [h0] at hz hk
  exact ⟨by rw [e1]; exact hz, fun q h1 h2 => by rw [e1]; exact hk q h1 h2,
    ⟨Nat.le_trans hS.1 (by rw [e1]; exact hz), fun q h1 h2 => by rw [e1, hk q (Nat.lt_of_lt_of_le h1 hS.1) (fun z => h2 (hA q (Nat.lt_of_lt_of_le h1 hS.1) z))]; exact hS.2.1 q h1 h2, fun q hq => by
      rcases List.mem_append.mp hq with h | h
      · exact hS.2.2 q h
      · exact hf _ (hL q h)⟩⟩
theorem vx_calli {S SX : Type} {post : Int32 → S → Prop} {px : SX → Prop} {B : S → State → Prop} {BX : String → SX → State → Prop} {AX : Nat → Prop} (hr : vx_Run p l e R s m args below meth c H locs cells slots mc ms (F0 m pc ls st0) rest (va_Qi post B A1 a) (vx_X px BX AX) free) (hS : va_S A0 H0 H locs) (hA : ∀ q, q < H.size → A1 q → A0 q) (hf : ∀ q, free q → A0 q) (hAX : ∀ q, q < H.size → AX q → A0 q)
    (kx : ∀ (E : String) (ce : Cell) (q9 : Addr) (u : SX) (t : State) (H1 : Heap) (locs1 : List Loc), t.heap = H1 → s.vm.Alike t.vm → px u → BX E u t → H.size ≤ H1.size → (∀ q : Nat, q < H.size → ¬ AX q → H1[q]? = H[q]?) → va_S A0 H0 H1 locs1 → H1[q9]? = some ce → ce.vm = .none → s.vm.findClass E = some ce.cls → vx_W p l e R s m args below meth c H1 locs1 (cells + mc) (slots + ms) Q (F0 m pc ls rest) q9)
    (kk : ∀ (r : Int32) (u : S) (t : State) (H1 : Heap) (locs1 : List Loc), t.heap = H1 → s.vm.Alike t.vm → post r u → B u t → H.size ≤ H1.size → (∀ q : Nat, q < H.size → ¬ A1 q → H1[q]? = H[q]?) → va_S A0 H0 H1 locs1 → W p l e R s m args below meth c H1 locs1 (cells + mc) (slots + ms) Q (F0 m (pc + 3) ls (.int r :: rest))) : W p l e R s m args below meth c H locs cells slots Q (F0 m pc ls st0) := by
  intro T hT X
  rcases hr T hT X with ⟨v, st₀, t, T', L, h0, X', hL, e1, e2, ⟨⟨r, u, hv, hp, hb⟩, hF⟩, st⟩ | ⟨q, st₀, t, T', L, E, ce, h0, X', hL, e1, e2, ⟨u, hp, hb, hF⟩, hce, hcv, hcl, st⟩
  · cases hv
    obtain ⟨k1, k2, k3⟩ := vx_keep h0 e1 hS hA hf hL hF
    obtain ⟨t2, a1, b1⟩ := kk r u t T'.heap (locs ++ L) e1.symm (by rw [← e2]; exact X'.warmed.alike) hp hb k1 k2 k3 T' rfl X'
    exact ⟨t2, st t2 a1, b1⟩
  · obtain ⟨k1, k2, k3⟩ := vx_keep h0 e1 hS hAX hf hL hF
    obtain ⟨t2, a1, b1⟩ := kx E ce q u t T'.heap (locs ++ L) e1.symm (by rw [← e2]; exact X'.warmed.alike) hp hb k1 k2 k3 (by rw [e1]; exact hce) hcv hcl T' rfl X'
    exact ⟨t2, st.trans a1, b1⟩
theorem vx_calll {S SX : Type} {post : Int64 → S → Prop} {px : SX → Prop} {B : S → State → Prop} {BX : String → SX → State → Prop} {AX : Nat → Prop} (hr : vx_Run p l e R s m args below meth c H locs cells slots mc ms (F0 m pc ls st0) rest (va_Ql post B A1 a) (vx_X px BX AX) free) (hS : va_S A0 H0 H locs) (hA : ∀ q, q < H.size → A1 q → A0 q) (hf : ∀ q, free q → A0 q) (hAX : ∀ q, q < H.size → AX q → A0 q)
    (kx : ∀ (E : String) (ce : Cell) (q9 : Addr) (u : SX) (t : State) (H1 : Heap) (locs1 : List Loc), t.heap = H1 → s.vm.Alike t.vm → px u → BX E u t → H.size ≤ H1.size → (∀ q : Nat, q < H.size → ¬ AX q → H1[q]? = H[q]?) → va_S A0 H0 H1 locs1 → H1[q9]? = some ce → ce.vm = .none → s.vm.findClass E = some ce.cls → vx_W p l e R s m args below meth c H1 locs1 (cells + mc) (slots + ms) Q (F0 m pc ls rest) q9)
    (kk : ∀ (r : Int64) (u : S) (t : State) (H1 : Heap) (locs1 : List Loc), t.heap = H1 → s.vm.Alike t.vm → post r u → B u t → H.size ≤ H1.size → (∀ q : Nat, q < H.size → ¬ A1 q → H1[q]? = H[q]?) → va_S A0 H0 H1 locs1 → W p l e R s m args below meth c H1 locs1 (cells + mc) (slots + ms) Q (F0 m (pc + 3) ls (.long r :: rest))) : W p l e R s m args below meth c H locs cells slots Q (F0 m pc ls st0) := by
  intro T hT X
  rcases hr T hT X with ⟨v, st₀, t, T', L, h0, X', hL, e1, e2, ⟨⟨r, u, hv, hp, hb⟩, hF⟩, st⟩ | ⟨q, st₀, t, T', L, E, ce, h0, X', hL, e1, e2, ⟨u, hp, hb, hF⟩, hce, hcv, hcl, st⟩
  · cases hv
    obtain ⟨k1, k2, k3⟩ := vx_keep h0 e1 hS hA hf hL hF
    obtain ⟨t2, a1, b1⟩ := kk r u t T'.heap (locs ++ L) e1.symm (by rw [← e2]; exact X'.warmed.alike) hp hb k1 k2 k3 T' rfl X'
    exact ⟨t2, st t2 a1, b1⟩
  · obtain ⟨k1, k2, k3⟩ := vx_keep h0 e1 hS hAX hf hL hF
    obtain ⟨t2, a1, b1⟩ := kx E ce q u t T'.heap (locs ++ L) e1.symm (by rw [← e2]; exact X'.warmed.alike) hp hb k1 k2 k3 (by rw [e1]; exact hce) hcv hcl T' rfl X'
    exact ⟨t2, st.trans a1, b1⟩
theorem vx_callf {S SX : Type} {post : UInt32 → S → Prop} {px : SX → Prop} {B : S → State → Prop} {BX : String → SX → State → Prop} {AX : Nat → Prop} (hr : vx_Run p l e R s m args below meth c H locs cells slots mc ms (F0 m pc ls st0) rest (va_Qf post B A1 a) (vx_X px BX AX) free) (hS : va_S A0 H0 H locs) (hA : ∀ q, q < H.size → A1 q → A0 q) (hf : ∀ q, free q → A0 q) (hAX : ∀ q, q < H.size → AX q → A0 q)
    (kx : ∀ (E : String) (ce : Cell) (q9 : Addr) (u : SX) (t : State) (H1 : Heap) (locs1 : List Loc), t.heap = H1 → s.vm.Alike t.vm → px u → BX E u t → H.size ≤ H1.size → (∀ q : Nat, q < H.size → ¬ AX q → H1[q]? = H[q]?) → va_S A0 H0 H1 locs1 → H1[q9]? = some ce → ce.vm = .none → s.vm.findClass E = some ce.cls → vx_W p l e R s m args below meth c H1 locs1 (cells + mc) (slots + ms) Q (F0 m pc ls rest) q9)
    (kk : ∀ (r : UInt32) (u : S) (t : State) (H1 : Heap) (locs1 : List Loc), t.heap = H1 → s.vm.Alike t.vm → post r u → B u t → H.size ≤ H1.size → (∀ q : Nat, q < H.size → ¬ A1 q → H1[q]? = H[q]?) → va_S A0 H0 H1 locs1 → W p l e R s m args below meth c H1 locs1 (cells + mc) (slots + ms) Q (F0 m (pc + 3) ls (.float r :: rest))) : W p l e R s m args below meth c H locs cells slots Q (F0 m pc ls st0) := by
  intro T hT X
  rcases hr T hT X with ⟨v, st₀, t, T', L, h0, X', hL, e1, e2, ⟨⟨r, u, hv, hp, hb⟩, hF⟩, st⟩ | ⟨q, st₀, t, T', L, E, ce, h0, X', hL, e1, e2, ⟨u, hp, hb, hF⟩, hce, hcv, hcl, st⟩
  · cases hv
    obtain ⟨k1, k2, k3⟩ := vx_keep h0 e1 hS hA hf hL hF
    obtain ⟨t2, a1, b1⟩ := kk r u t T'.heap (locs ++ L) e1.symm (by rw [← e2]; exact X'.warmed.alike) hp hb k1 k2 k3 T' rfl X'
    exact ⟨t2, st t2 a1, b1⟩
  · obtain ⟨k1, k2, k3⟩ := vx_keep h0 e1 hS hAX hf hL hF
    obtain ⟨t2, a1, b1⟩ := kx E ce q u t T'.heap (locs ++ L) e1.symm (by rw [← e2]; exact X'.warmed.alike) hp hb k1 k2 k3 (by rw [e1]; exact hce) hcv hcl T' rfl X'
    exact ⟨t2, st.trans a1, b1⟩
theorem vx_calld {S SX : Type} {post : UInt64 → S → Prop} {px : SX → Prop} {B : S → State → Prop} {BX : String → SX → State → Prop} {AX : Nat → Prop} (hr : vx_Run p l e R s m args below meth c H locs cells slots mc ms (F0 m pc ls st0) rest (va_Qd post B A1 a) (vx_X px BX AX) free) (hS : va_S A0 H0 H locs) (hA : ∀ q, q < H.size → A1 q → A0 q) (hf : ∀ q, free q → A0 q) (hAX : ∀ q, q < H.size → AX q → A0 q)
    (kx : ∀ (E : String) (ce : Cell) (q9 : Addr) (u : SX) (t : State) (H1 : Heap) (locs1 : List Loc), t.heap = H1 → s.vm.Alike t.vm → px u → BX E u t → H.size ≤ H1.size → (∀ q : Nat, q < H.size → ¬ AX q → H1[q]? = H[q]?) → va_S A0 H0 H1 locs1 → H1[q9]? = some ce → ce.vm = .none → s.vm.findClass E = some ce.cls → vx_W p l e R s m args below meth c H1 locs1 (cells + mc) (slots + ms) Q (F0 m pc ls rest) q9)
    (kk : ∀ (r : UInt64) (u : S) (t : State) (H1 : Heap) (locs1 : List Loc), t.heap = H1 → s.vm.Alike t.vm → post r u → B u t → H.size ≤ H1.size → (∀ q : Nat, q < H.size → ¬ A1 q → H1[q]? = H[q]?) → va_S A0 H0 H1 locs1 → W p l e R s m args below meth c H1 locs1 (cells + mc) (slots + ms) Q (F0 m (pc + 3) ls (.double r :: rest))) : W p l e R s m args below meth c H locs cells slots Q (F0 m pc ls st0) := by
  intro T hT X
  rcases hr T hT X with ⟨v, st₀, t, T', L, h0, X', hL, e1, e2, ⟨⟨r, u, hv, hp, hb⟩, hF⟩, st⟩ | ⟨q, st₀, t, T', L, E, ce, h0, X', hL, e1, e2, ⟨u, hp, hb, hF⟩, hce, hcv, hcl, st⟩
  · cases hv
    obtain ⟨k1, k2, k3⟩ := vx_keep h0 e1 hS hA hf hL hF
    obtain ⟨t2, a1, b1⟩ := kk r u t T'.heap (locs ++ L) e1.symm (by rw [← e2]; exact X'.warmed.alike) hp hb k1 k2 k3 T' rfl X'
    exact ⟨t2, st t2 a1, b1⟩
  · obtain ⟨k1, k2, k3⟩ := vx_keep h0 e1 hS hAX hf hL hF
    obtain ⟨t2, a1, b1⟩ := kx E ce q u t T'.heap (locs ++ L) e1.symm (by rw [← e2]; exact X'.warmed.alike) hp hb k1 k2 k3 (by rw [e1]; exact hce) hcv hcl T' rfl X'
    exact ⟨t2, st.trans a1, b1⟩
theorem vx_callv {S SX : Type} {post : S → Prop} {px : SX → Prop} {B : S → State → Prop} {BX : String → SX → State → Prop} {AX : Nat → Prop} (hr : vx_Run p l e R s m args below meth c H locs cells slots mc ms (F0 m pc ls st0) rest (va_Qv post B A1 a) (vx_X px BX AX) free) (hS : va_S A0 H0 H locs) (hA : ∀ q, q < H.size → A1 q → A0 q) (hf : ∀ q, free q → A0 q) (hAX : ∀ q, q < H.size → AX q → A0 q)
    (kx : ∀ (E : String) (ce : Cell) (q9 : Addr) (u : SX) (t : State) (H1 : Heap) (locs1 : List Loc), t.heap = H1 → s.vm.Alike t.vm → px u → BX E u t → H.size ≤ H1.size → (∀ q : Nat, q < H.size → ¬ AX q → H1[q]? = H[q]?) → va_S A0 H0 H1 locs1 → H1[q9]? = some ce → ce.vm = .none → s.vm.findClass E = some ce.cls → vx_W p l e R s m args below meth c H1 locs1 (cells + mc) (slots + ms) Q (F0 m pc ls rest) q9)
    (kk : ∀ (u : S) (t : State) (H1 : Heap) (locs1 : List Loc), t.heap = H1 → s.vm.Alike t.vm → post u → B u t → H.size ≤ H1.size → (∀ q : Nat, q < H.size → ¬ A1 q → H1[q]? = H[q]?) → va_S A0 H0 H1 locs1 → W p l e R s m args below meth c H1 locs1 (cells + mc) (slots + ms) Q (F0 m (pc + 3) ls (rest))) : W p l e R s m args below meth c H locs cells slots Q (F0 m pc ls st0) := by
  intro T hT X
  rcases hr T hT X with ⟨v, st₀, t, T', L, h0, X', hL, e1, e2, ⟨⟨u, hv, hp, hb⟩, hF⟩, st⟩ | ⟨q, st₀, t, T', L, E, ce, h0, X', hL, e1, e2, ⟨u, hp, hb, hF⟩, hce, hcv, hcl, st⟩
  · cases hv
    obtain ⟨k1, k2, k3⟩ := vx_keep h0 e1 hS hA hf hL hF
    obtain ⟨t2, a1, b1⟩ := kk u t T'.heap (locs ++ L) e1.symm (by rw [← e2]; exact X'.warmed.alike) hp hb k1 k2 k3 T' rfl X'
    exact ⟨t2, st t2 a1, b1⟩
  · obtain ⟨k1, k2, k3⟩ := vx_keep h0 e1 hS hAX hf hL hF
    obtain ⟨t2, a1, b1⟩ := kx E ce q u t T'.heap (locs ++ L) e1.symm (by rw [← e2]; exact X'.warmed.alike) hp hb k1 k2 k3 (by rw [e1]; exact hce) hcv hcl T' rfl X'
    exact ⟨t2, st.trans a1, b1⟩
/-- caught by the row x of this method's table; the rows ahead don't take it -/
theorem vx_catch {own name : String} {E : String} {ce : Cell} {q : Addr} (hown : s.vm.findClass own = some m.cls) (pre : List ExceptionTableEntry) (x : ExceptionTableEntry) (suf : List ExceptionTableEntry) (hsplit : c.exceptionTable.toList = pre ++ x :: suf)
    (hpass : ∀ z ∈ pre, covers z pc = false ∨ (z.catchType ≠ 0 ∧ ∃ nm : String, (Cond.classLink own z.catchType nm).before args s = true ∧ va_Nc E nm s)) (hx : covers x pc = true) (h0 : x.catchType ≠ 0)
    (hlink : (Cond.classLink own x.catchType name).before args s = true) (hcast : (Cond.castable E name).before args s = true) (hcell : H[q]? = some ce) (hv : ce.vm = .none) (hcl : s.vm.findClass E = some ce.cls)
    (kk : W p l e R s m args below meth c H locs cells slots Q (F0 m x.handlerPc ls [.ref q])) : vx_W p l e R s m args below meth c H locs cells slots Q (F0 m pc ls rest) q := by
  intro T hT X
  have hpl : e.platform.magicAccessors = ({} : Platform).magicAccessors := by rw [X.admits.platform]
  obtain ⟨c3, c4, hc3, hc4, hasg⟩ := Cond.castable_spec hcast
  cases Option.some.inj (hc3.symm.trans hcl)
  obtain ⟨c5, hc5, hcl5⟩ := Cond.classLink_spec hown hlink e.platform hpl
  cases Option.some.inj (hc4.symm.trans hc5)
  obtain ⟨vm', X', st⟩ := X.thenCaughtThrough q (g := F0 m pc ls rest) rfl (Steps.refl _) (by rw [hT]; exact hcell) (by rw [hv]; rfl) (by obtain ⟨k9, h9, -⟩ := Vm.findClass_spec hcl; exact ⟨k9, h9⟩) pre x suf hsplit
    (fun z hz => by
      rcases hpass z hz with h | ⟨hz0, nm, hl1, hn1⟩
      · exact Or.inl h
      · obtain ⟨c6, hc6, hcl6⟩ := Cond.classLink_spec hown hl1 e.platform hpl
        obtain ⟨a8, b8, h1, h2, h3⟩ := hn1
        cases Option.some.inj (h1.symm.trans hcl)
        cases Option.some.inj (h2.symm.trans hc6)
        exact Or.inr ⟨hz0, _, hcl6, h3⟩) hx (Or.inr ⟨h0, c4, hcl5, hasg⟩)
  obtain ⟨t, a1, b1⟩ := kk (T.setVm vm') hT X'
  exact ⟨t, st.trans a1, b1⟩
end Rows
section Ends
variable {p : Program} {l : Launch} {e : Env} {R : Room} {s : State} {m : MethodId} {args : Array Value} {below : List Frame} {meth : Method} {c : Code} {H : Heap} {locs : List Loc} {cells slots : Nat} {Q : State → Prop}
variable {mc ms : Nat} {free : Addr → Prop} {A0 A1 : Nat → Prop} {H0 : Heap} {a : Array Value} {ls : Array Slot} {st0 rest : List Value}
variable {Qc : Array Value → State → Outcome → State → Prop} {XC : String → State → State → Prop}
/-- what a body that may throw owes at its end -/
def vx_MQ (below : List Frame) (Qc : Array Value → State → Outcome → State → Prop) (XC : String → State → State → Prop) (a : Array Value) (s : State) (mc ms : Nat) (free : Addr → Prop) : State → Prop := fun t =>
  ∃ o, t.status = .running ∧ Ended t below o ∧ vx_Q Qc XC mc ms free a s o t
theorem vx_ret {g : JFrame} {mc ms : Nat} (k : W p l e R s m args below meth c H locs cells slots (MQ below Qc args s mc ms free) g) : W p l e R s m args below meth c H locs cells slots (vx_MQ below Qc XC args s mc ms free) g := by
  intro T hT X
  obtain ⟨t, a1, o, b1, b2, b3, b4⟩ := k T hT X
  exact ⟨t, a1, o, b1, b2, Or.inl ⟨b3, b4⟩⟩
/-- not caught here: it goes on to the caller -/
theorem vx_widen {g : JFrame} {q : Addr} {k n : Nat} (h1 : cells ≤ k) (h2 : slots ≤ n) (kk : vx_W p l e R s m args below meth c H locs k n Q g q) : vx_W p l e R s m args below meth c H locs cells slots Q g q := fun T hT X => kk T hT (stand_widen X h1 h2)
theorem vx_out {pc : Nat} {E : String} {ce : Cell} {q : Addr} {mc ms : Nat} (hout : ∀ x ∈ c.exceptionTable.toList, covers x pc = false) (hlocks : meth.locks = false) (hcell : H[q]? = some ce) (hv : ce.vm = .none) (hcl : s.vm.findClass E = some ce.cls)
    (hx : ∀ t : State, t.heap = H → s.vm.Alike t.vm → XC E s t) (hf : ∀ z ∈ locs, free z.base) (hc : cells ≤ mc) (hs : slots ≤ ms) :
    vx_W p l e R s m args below meth c H locs cells slots (vx_MQ below Qc XC args s mc ms free) (F0 m pc ls rest) q := by
  intro T hT X
  obtain ⟨st1, hrun, hend, hW, hsm⟩ := X.leaveThrown q (g := F0 m pc ls rest) rfl rfl rfl hout hlocks
  have hcell9 : (T.setFrames (.throwing q :: below)).heap[q]? = some ce := by
    show T.heap[q]? = some ce
    rw [hT]; exact hcell
  exact ⟨_, st1, .threw q, hrun, hend, Or.inr ⟨q, rfl, E, ce, locs, hx _ hT hW.alike, hcell9, hv, hcl, hW, hsm.mono hc hs, hf⟩⟩
theorem vx_frame {U : State} {k n : Nat} (h : s.sameButNew ({ U with vm := s.vm } : State) locs k n) : s.heap.size ≤ U.heap.size ∧ ∀ q : Nat, q < s.heap.size → (∀ z ∈ locs, z.base ≠ q) → U.heap[q]? = s.heap[q]? := by
  obtain ⟨-, h2, -, -, -, h6⟩ := h
  refine ⟨h2, fun q hq hz => ?_⟩
  obtain ⟨c9, e1, e2, e3, e4⟩ := h6 q _ (Array.getElem?_eq_getElem hq)
  have hs : c9.slots = (s.heap[q]).slots := Array.ext_getElem? fun i => e4 i fun hm => hz _ hm rfl
  have h9 : c9 = s.heap[q] := by
    rw [hs] at e2
    exact e2
  have e5 : U.heap[q]? = some c9 := e1
  rw [e5, h9, Array.getElem?_eq_getElem hq]
/-- the words of a throw but the four that speak of the heap -/
def vx_no (w : Cond) : Bool := decide (w ≠ .isRef (.static Bundle.tN "UNASSIGNED_STACK" Bundle.steD)) && decide (w ≠ .isRef (.static Bundle.tN "SUPPRESSED_SENTINEL" Bundle.listD)) && decide (w ≠ .laysStatic Bundle.tN "UNASSIGNED_STACK" Bundle.steD) && decide (w ≠ .laysStatic Bundle.tN "SUPPRESSED_SENTINEL" Bundle.listD)
def vx_at0 (own : String) (ic : Nat) (X : String) (names : List String) : List Cond := (Bundle.ownAtoms0 own ic X names).filter vx_no
def vx_atS (own : String) (ic : Nat) (X : String) (names : List String) : List Cond := (Bundle.ownAtoms own ic X names).filter vx_no
/-- a word that the tables alone decide, or a good one -/
def vx_ot (w : Cond) : Bool := w.onTables || goodWord w
theorem vx_ot_at {args a' : Array Value} {s U : State} {w : Cond} (hW : s.WarmedH U.vm) (hvm : s.vm = U.vm) (hg : vx_ot w = true) (h : w.before args s = true) : w.before a' U = true := by
  simp only [vx_ot, Bool.or_eq_true] at hg
  rcases hg with hg | hg
  · exact va_tabs hg hvm h
  · exact word_at hW (good_of_word hg) h
/-- a list's words: the good ones out of the method's own list, the others by premises of their own -/
theorem vx_hat {args : Array Value} {s : State} {L B : List Cond} (h1 : ∀ w ∈ L.filter goodWord, w.before args s = true) (h2 : ∀ w ∈ L.filter (fun w => !goodWord w), w ∈ B) (h3 : ∀ w ∈ B, w.before args s = true) : ∀ w ∈ L, w.before args s = true := by
  intro w hw
  by_cases g : goodWord w = true
  · exact h1 w (List.mem_filter.mpr ⟨hw, g⟩)
  · refine h3 w (h2 w (List.mem_filter.mpr ⟨hw, ?_⟩))
    show (!goodWord w) = true
    cases hgw : goodWord w
    · rfl
    · exact absurd hgw g
theorem vx_c {args : Array Value} {s : State} {w : Cond} {B : List Cond} (h : w.before args s = true) (t : ∀ w ∈ B, w.before args s = true) : ∀ w' ∈ w :: B, w'.before args s = true := fun w' h' => (List.mem_cons.mp h').elim (fun e => by rw [e]; exact h) (t w')
theorem vx_n {args : Array Value} {s : State} : ∀ w ∈ ([] : List Cond), w.before args s = true := fun _ h => nomatch h
theorem vx_own {args : Array Value} {s : State} {L : List Cond} (h1 : ∀ w ∈ L.filter vx_no, w.before args s = true)
    (hU : (Cond.isRef (.static Bundle.tN "UNASSIGNED_STACK" Bundle.steD)).before args s = true) (hN : (Cond.isRef (.static Bundle.tN "SUPPRESSED_SENTINEL" Bundle.listD)).before args s = true)
    (lU : (Cond.laysStatic Bundle.tN "UNASSIGNED_STACK" Bundle.steD).before args s = true) (lN : (Cond.laysStatic Bundle.tN "SUPPRESSED_SENTINEL" Bundle.listD).before args s = true) : ∀ w ∈ L, w.before args s = true := by
  intro w hw
  by_cases e1 : w = .isRef (.static Bundle.tN "UNASSIGNED_STACK" Bundle.steD)
  · rw [e1]; exact hU
  · by_cases e2 : w = .isRef (.static Bundle.tN "SUPPRESSED_SENTINEL" Bundle.listD)
    · rw [e2]; exact hN
    · by_cases e3 : w = .laysStatic Bundle.tN "UNASSIGNED_STACK" Bundle.steD
      · rw [e3]; exact lU
      · by_cases e4 : w = .laysStatic Bundle.tN "SUPPRESSED_SENTINEL" Bundle.listD
        · rw [e4]; exact lN
        · exact h1 w (List.mem_filter.mpr ⟨hw, by unfold vx_no; rw [decide_eq_true e1, decide_eq_true e2, decide_eq_true e3, decide_eq_true e4]; rfl⟩)
/-- where a static field lies, its class's statics cell in H -/
def vx_L (C n d : String) (A : Nat → Prop) (U : State) (H : Heap) : Prop := ∃ (c : ClassId) (k : Class) (i : Nat) (f : Field) (a : Nat) (cell : Cell), U.vm.findClass C = some c ∧ U.fieldFound? C n d = some (c, k, i, f) ∧ f.isStatic = true ∧ k.statics = some a ∧ H[a]? = some cell ∧ cell.vm.isStatics = true ∧ cell.cls = c ∧ f.slot < cell.slots.size ∧ k.staticTypes[f.slot]? = some f.type ∧ ¬ A a
theorem vx_L.moved {C n d : String} {A : Nat → Prop} {u U : State} {H : Heap} (hvm : u.vm.Alike U.vm) (h : vx_L C n d A u H) : vx_L C n d A U H := by
  obtain ⟨c, k, i, f, a, cell, h1, h2, h3, h4, h5, h6, h7, h8, h9, h10⟩ := h
  obtain ⟨k', hi', he⟩ := State.fieldFound?_setVm hvm h2
  exact ⟨c, k', i, f, a, cell, by rw [hvm.findClass]; exact h1, hi', h3, by rw [he]; exact h4, h5, h6, h7, h8, by rw [he]; exact h9, h10⟩
theorem vx_L.kept {C n d : String} {A : Nat → Prop} {U : State} {H H1 : Heap} (h : vx_L C n d A U H) (hq : ∀ a : Nat, a < H.size → ¬ A a → H1[a]? = H[a]?) : vx_L C n d A U H1 := by
  obtain ⟨c, k, i, f, a, cell, h1, h2, h3, h4, h5, h6, h7, h8, h9, h10⟩ := h
  exact ⟨c, k, i, f, a, cell, h1, h2, h3, h4, by rw [hq a (Array.getElem?_eq_some_iff.mp h5).1 h10]; exact h5, h6, h7, h8, h9, h10⟩
theorem vx_L.narrow {C n d : String} {A B : Nat → Prop} {U : State} {H : Heap} (h : vx_L C n d A U H) (hAB : ∀ q, B q → A q) : vx_L C n d B U H := by
  obtain ⟨c, k, i, f, a, cell, h1, h2, h3, h4, h5, h6, h7, h8, h9, h10⟩ := h
  exact ⟨c, k, i, f, a, cell, h1, h2, h3, h4, h5, h6, h7, h8, h9, fun z => h10 (hAB _ z)⟩
theorem vx_L.word {C n d : String} {A : Nat → Prop} {s : State} {args : Array Value} (h : vx_L C n d A s s.heap) : (Cond.laysStatic C n d).before args s = true := by
  obtain ⟨c, k, i, f, a, cell, h1, h2, h3, h4, h5, h6, h7, h8, h9, -⟩ := h
  show (Cond.laysStatic C n d).holds args s none s [] = true
  exact Cond.laysStatic_of h1 h2 h3 h4 h5 h6 h7 h8 h9
/-- .. and what it holds: null or some reference -/
def vx_Zq (C n d : String) (A : Nat → Prop) (U : State) (H : Heap) : Prop := va_Zq C n d A U H ∧ vx_L C n d A U H
theorem vx_Zq.moved {C n d : String} {A : Nat → Prop} {u U : State} {H : Heap} (hvm : u.vm.Alike U.vm) (h : vx_Zq C n d A u H) : vx_Zq C n d A U H := ⟨va_Zq.moved hvm h.1, vx_L.moved hvm h.2⟩
theorem vx_Zq.kept {C n d : String} {A : Nat → Prop} {U : State} {H H1 : Heap} (h : vx_Zq C n d A U H) (hq : ∀ a : Nat, a < H.size → ¬ A a → H1[a]? = H[a]?) : vx_Zq C n d A U H1 := ⟨va_Zq.kept h.1 hq, vx_L.kept h.2 hq⟩
theorem vx_Zq.narrow {C n d : String} {A B : Nat → Prop} {U : State} {H : Heap} (h : vx_Zq C n d A U H) (hAB : ∀ q, B q → A q) : vx_Zq C n d B U H := ⟨va_Zq.narrow h.1 hAB, vx_L.narrow h.2 hAB⟩
theorem vx_Zqof {args : Array Value} {s : State} {C n d : String} {A : Nat → Prop} (hl : (Cond.laysStatic C n d).before args s = true) (hini : (Cond.initialized C).before args s = true) (h : (Cond.isRef (.static C n d)).before args s = true) (hA : ∀ a : Nat, a < s.heap.size → ¬ A a) : vx_Zq C n d A s s.heap := by
  refine ⟨va_Zqof hl hini h hA, ?_⟩
  obtain ⟨c, k, i, f, a, cell, h1, h2, h3, h4, h5, h6, h7, h8, h9⟩ := Cond.laysStatic_spec hl
  exact ⟨c, k, i, f, a, cell, h1, h2, h3, h4, h5, h6, h7, h8, h9, hA a (Array.getElem?_eq_some_iff.mp h5).1⟩
theorem vx_isRef {C n d : String} {v : Value} {A : Nat → Prop} {s : State} {args : Array Value} (h : va_Z C n d v A s s.heap) (hv : v.isRef = true) : (Cond.isRef (.static C n d)).before args s = true := by
  obtain ⟨cf, kf, fi, f, a, cell, h1, h2, h3, h4, h5, h6, h7, -⟩ := h
  have he : (Term.static C n d).eval args s none [] s = some v := by
    simp [Term.eval, State.fieldNamed?, h1, h2, h4, h5, h6, h7]
  simp only [Cond.before, Cond.holds, Cond.value, he]
  cases v <;> simp_all [Value.isRef]
theorem vx_isRefq {C n d : String} {A : Nat → Prop} {s : State} {args : Array Value} (h : va_Zq C n d A s s.heap) : (Cond.isRef (.static C n d)).before args s = true := by
  rcases h with h | ⟨t, h⟩
  · exact vx_isRef h rfl
  · exact vx_isRef h rfl
/-- the same frame, seen from here: as if the method were called anew in this heap -/
theorem vx_rebase {T : State} (X : Stand p l e R s m args below meth c T locs cells slots) {R' : Room} (hf : R'.frames ≤ R.frames) (hl : R'.locals ≤ R.locals) (hc : cells + R'.cells ≤ R.cells) (hs : slots + R'.slots ≤ R.slots) :
    Stand p l e R' ((T.setVm s.vm).setFrames (.invoking m args :: below)) m args below meth c T [] 0 0 := by
  have htop : (T.setVm s.vm).topJava?.isSome := X.here.top
  have hF : ((T.setVm s.vm).setFrames (.invoking m args :: below)).frames = .invoking m args :: below := State.frames_setFrames _ (State.cur_lt_of_top htop)
  obtain ⟨g₀, hg0⟩ := Option.isSome_iff_exists.mp htop
  obtain ⟨r, hr⟩ := State.topJava?_eq_some.mp hg0
  have hl9 : e.platform.stackLimits (T.setVm s.vm).me = e.platform.stackLimits s.me := X.limits
  have hb9 : (T.setVm s.vm).me.stackBytes = s.me.stackBytes := X.bytes
  refine ⟨X.admits, X.cas, X.clock, hF, ?_, X.hears, X.method, X.code, X.here, X.tail, X.warmed, ?_, ?_, ?_⟩
  · have h := X.room
    have hU : ((T.setVm s.vm).setFrames (.invoking m args :: below)).localsInUse = s.localsInUse := by
      rw [State.localsInUse_invoking hF (meth := meth) (c := c) X.method X.code, State.localsInUse_invoking X.frames X.method X.code]
    simp only [State.hasRoom, Bool.and_eq_true, decide_eq_true_eq] at h ⊢
    obtain ⟨⟨⟨⟨h1, h2, h3, h4, h5, h6⟩, h7⟩, h8⟩, h9⟩ := h
    rw [X.frames, List.length_cons] at h2 h3
    have q1 := X.heapSize
    have q2 := X.used
    simp only [hF, hU, List.length_cons, State.stackLimits_setFrames, State.stackBytes_setFrames, hl9, hb9]
    refine ⟨⟨⟨⟨by omega, by omega, by omega, by omega, by omega, h6⟩, ?_⟩, ?_⟩, X.book⟩
    · show T.heap.size + R'.cells ≤ e.platform.maxCells
      omega
    · show T.slotsUsed + R'.slots ≤ e.platform.maxSlots
      omega
  · rw [State.stackLimits_setFrames]; rfl
  · rw [State.stackBytes_setFrames]; rfl
  · refine ⟨?_, Nat.le_refl _, Nat.le_refl _, ?_, ?_, fun a c9 h9 => ⟨c9, h9, rfl, rfl, fun _ _ => rfl⟩⟩
    · obtain ⟨t, ht, -⟩ := State.frames_cons hr
      show T.setVm s.vm = { ((T.setVm s.vm).setFrames (.invoking m args :: below)).setFrames (T.setVm s.vm).frames with heap := T.heap, slotsUsed := T.slotsUsed }
      rw [State.setFrames_setFrames, State.setFrames_self ht]
      rfl
    · show T.slotsUsed = T.slotsUsed + ((T.heap.toList.drop T.heap.size).map (·.slots.size)).sum
      rw [List.drop_eq_nil_of_le (Nat.le_of_eq Array.length_toList)]
      rfl
    · show ((T.heap.toList.drop T.heap.size).map (·.slots.size)).sum ≤ 0
      rw [List.drop_eq_nil_of_le (Nat.le_of_eq Array.length_toList)]
      exact Nat.le_refl _
/-- 'throw new E()': new; dup; invokespecial; athrow -/
theorem vx_throw0 {cc : ByteArray} {pc : Nat} (hexec : p.tables.exec = Jvm.exec) (hb : c.code = cc) (hl : l.stackTraces = false) {own cls : String} {names : List String} {ik ic mc ms : Nat} {A : Nat → Prop}
    (hown : s.vm.findClass own = some m.cls) (hcls : Bundle.fit cls = true) (hnames : ∀ n ∈ names, Bundle.fit n = true)
    (hk : (Cond.classLink own ik cls).before args s = true) (hini : (Cond.initialized cls).before args s = true) (hat : ∀ w ∈ vx_at0 own ic cls names, w.before args s = true)
    (hgood : ∀ w ∈ Cond.classLink own ik cls :: Cond.initialized cls :: vx_at0 own ic cls names, vx_ot w = true)
    (hU : vx_Zq Bundle.tN "UNASSIGNED_STACK" Bundle.steD A s s.heap) (hN : vx_Zq Bundle.tN "SUPPRESSED_SENTINEL" Bundle.listD A s s.heap) (hS : va_S A s.heap H locs) (hsize : ls.size = c.maxLocals)
    (d0 : decode cc pc = .ok (.new ik, 3)) (d3 : decode cc (pc + 3) = .ok (.dup, 1)) (d4 : decode cc (pc + 4) = .ok (.invokespecial ic, 3)) (d7 : decode cc (pc + 7) = .ok (.athrow, 1))
    (hout : ∀ x ∈ c.exceptionTable.toList, covers x (pc + 7) = false)
    (hRframes : names.length + 3 < R.frames) (hRlocals : (rest.map fun v => v.category).sum + (13 * (names.length + 1) + 42) ≤ R.locals) (hRcells : cells + 1 ≤ R.cells) (hRslots : slots + 6 ≤ R.slots) (hlocks : meth.locks = false)
    (hx : ∀ t : State, s.vm.Alike t.vm → H.size ≤ t.heap.size → (∀ q : Nat, q < H.size → t.heap[q]? = H[q]?) → XC cls s t)
    (hf : ∀ z ∈ locs, free z.base) (hc : cells + 1 ≤ mc) (hs : slots + 6 ≤ ms) :
    W p l e R s m args below meth c H locs cells slots (vx_MQ below Qc XC args s mc ms free) (F0 m pc ls rest) := by
  intro T hT X
  have htr : e.platform.stackTraces = false := (show e.platform.stackTraces = l.stackTraces by rw [X.admits.platform]).trans hl
  have Y := vx_rebase X (R' := { frames := R.frames, locals := R.locals, cells := 1, slots := 6 }) (Nat.le_refl _) (Nat.le_refl _) hRcells hRslots
  obtain ⟨s', hA⟩ : ∃ z, z = (T.setVm s.vm).setFrames (.invoking m args :: below) := ⟨_, rfl⟩
  rw [← hA] at Y
  have hvm : s'.vm = s.vm := by rw [hA]; rfl
  have hhp : s'.heap = H := by rw [hA]; exact hT
  have hW0 : s.WarmedH s'.vm := by rw [hvm]; exact State.WarmedH.refl s
  have hat' : ∀ w ∈ vx_at0 own ic cls names, w.before args s' = true := fun w hw => vx_ot_at hW0 hvm.symm (hgood w (List.mem_cons_of_mem _ (List.mem_cons_of_mem _ hw))) (hat w hw)
  have hk' : (Cond.classLink own ik cls).before args s' = true := vx_ot_at hW0 hvm.symm (hgood _ List.mem_cons_self) hk
  have hini' : (Cond.initialized cls).before args s' = true := vx_ot_at hW0 hvm.symm (hgood _ (List.mem_cons_of_mem _ List.mem_cons_self)) hini
  have hU' : vx_Zq Bundle.tN "UNASSIGNED_STACK" Bundle.steD A s' s'.heap := by rw [hhp]; exact vx_Zq.moved hW0.alike (hU.kept hS.2.1)
  have hN' : vx_Zq Bundle.tN "SUPPRESSED_SENTINEL" Bundle.listD A s' s'.heap := by rw [hhp]; exact vx_Zq.moved hW0.alike (hN.kept hS.2.1)
  have h : ∀ w ∈ Bundle.ownAtoms0 own ic cls names, w.before args s' = true := vx_own hat' (vx_isRefq hU'.1) (vx_isRefq hN'.1) hU'.2.word hN'.2.word
  have hown' : s'.vm.findClass own = some m.cls := by rw [hvm]; exact hown
  have hins : (Cond.instantiable cls 6).before args s' = true := h _ (by simp [Bundle.ownAtoms0])
  obtain ⟨vm₁, cX, kX, hfX, hkX, -, -, X₁, st1⟩ := Y.newCold hexec (own := own) (C := cls) (index := ik) (n := 6) hown' hk' hins hini'
    (g := F0 m pc ls rest) rfl (by rw [hb]; exact d0) (Nat.le_refl _) (Nat.le_refl _)
  generalize hT1 : (T.setVm vm₁).pushCell { cls := cX, slots := kX.instanceTypes.map defaultValue, vm := .none } = T1 at X₁ st1
  have hcat : (Value.ref T.heap.size).category = 1 := rfl
  have hcellA : T1.heap[T.heap.size]? = some (freshCell cX kX) := by rw [← hT1]; exact State.heap_pushCell_size _ _
  have d3' : decode c.code (pc + 3) = .ok (.dup, 1) := by rw [hb]; exact d3
  obtain ⟨U, hsteps, hrun, hend, hW, hsame, ce, hce, hO⟩ := X₁.ctorThrow0 hexec htr (own := own) (cls := cls) (names := names) (ic := ic) hown' hcls hnames h (fun x hx => nomatch hx) hfX hkX hcellA (by rw [hhp, hT]; exact Nat.le_refl _)
    (g := { method := m, pc := pc + 4, locals := ls, stack := .ref T.heap.size :: .ref T.heap.size :: rest, locked := none }) rfl hsize rfl rfl (rest := rest) rfl
    (by rw [hb]; exact d4) (by rw [hb]; exact d7) hout hRframes (by simp only [List.map_cons, List.sum_cons, hcat]; omega) hlocks
  obtain ⟨f1, f2⟩ := vx_frame hsame
  rw [hhp] at f1 f2
  have hWs : s.WarmedH U.vm := State.WarmedH.trans hW0 hW
  have hcl : s.vm.findClass cls = some ce.cls := by
    have h9 := hO.cls
    rw [hvm] at h9
    exact h9
  have hall : s.sameButNew ({ U with vm := s.vm } : State) locs mc ms := by
    subst hA
    obtain ⟨e1, e2⟩ := hsame
    rw [State.setFrames_setFrames] at e1
    have h2 : (T.setVm s.vm).sameButNew ({ U with vm := s.vm } : State) [] (0 + 1) (0 + 6) := ⟨e1, e2⟩
    have h3 := X.same.trans h2
    rw [List.append_nil] at h3
    exact h3.mono hc hs
  refine ⟨U, ?_, .threw T.heap.size, hrun, hend, Or.inr ⟨T.heap.size, rfl, cls, ce, locs, hx U hWs.alike f1 (fun q hq => f2 q hq (fun z hz => nomatch hz)), hce, hO.vm, hcl, hWs, hall, hf⟩⟩
  refine st1 _ ?_
  show Steps p.tables e below (T1.setTop { method := m, pc := pc + 3, locals := ls, stack := .ref T.heap.size :: rest, locked := none }) _
  jvm_step X₁.here [X₁.here.top, hexec, d3', Value.category]
  exact hsteps
/-- 'throw new E("text")': new; dup; ldc; invokespecial; athrow -/
theorem vx_throwS {cc : ByteArray} {pc : Nat} (hexec : p.tables.exec = Jvm.exec) (hb : c.code = cc) (hl : l.stackTraces = false) {own cls text : String} {names : List String} {ik is ic mc ms sa : Nat} {A : Nat → Prop}
    (hown : s.vm.findClass own = some m.cls) (hcls : Bundle.fit cls = true) (hnames : ∀ n ∈ names, Bundle.fit n = true)
    (hk : (Cond.classLink own ik cls).before args s = true) (hini : (Cond.initialized cls).before args s = true) (hstr : vk_R own is text sa s) (hat : ∀ w ∈ vx_atS own ic cls names, w.before args s = true)
    (hgood : ∀ w ∈ Cond.classLink own ik cls :: Cond.initialized cls :: vx_atS own ic cls names, vx_ot w = true)
    (hU : vx_Zq Bundle.tN "UNASSIGNED_STACK" Bundle.steD A s s.heap) (hN : vx_Zq Bundle.tN "SUPPRESSED_SENTINEL" Bundle.listD A s s.heap) (hS : va_S A s.heap H locs) (hsize : ls.size = c.maxLocals)
    (d0 : decode cc pc = .ok (.new ik, 3)) (d3 : decode cc (pc + 3) = .ok (.dup, 1)) (d4 : decode cc (pc + 4) = .ok (.ldc is, 2)) (d6 : decode cc (pc + 6) = .ok (.invokespecial ic, 3)) (d9 : decode cc (pc + 9) = .ok (.athrow, 1))
    (hout : ∀ x ∈ c.exceptionTable.toList, covers x (pc + 9) = false)
    (hRframes : names.length + 3 < R.frames) (hRlocals : (rest.map fun v => v.category).sum + (13 * (names.length + 1) + 43) ≤ R.locals) (hRcells : cells + 1 ≤ R.cells) (hRslots : slots + 6 ≤ R.slots) (hlocks : meth.locks = false)
    (hx : ∀ t : State, s.vm.Alike t.vm → H.size ≤ t.heap.size → (∀ q : Nat, q < H.size → t.heap[q]? = H[q]?) → XC cls s t)
    (hf : ∀ z ∈ locs, free z.base) (hc : cells + 1 ≤ mc) (hs : slots + 6 ≤ ms) :
    W p l e R s m args below meth c H locs cells slots (vx_MQ below Qc XC args s mc ms free) (F0 m pc ls rest) := by
  intro T hT X
  have htr : e.platform.stackTraces = false := (show e.platform.stackTraces = l.stackTraces by rw [X.admits.platform]).trans hl
  have Y := vx_rebase X (R' := { frames := R.frames, locals := R.locals, cells := 1, slots := 6 }) (Nat.le_refl _) (Nat.le_refl _) hRcells hRslots
  obtain ⟨s', hA⟩ : ∃ z, z = (T.setVm s.vm).setFrames (.invoking m args :: below) := ⟨_, rfl⟩
  rw [← hA] at Y
  have hvm : s'.vm = s.vm := by rw [hA]; rfl
  have hhp : s'.heap = H := by rw [hA]; exact hT
  have hW0 : s.WarmedH s'.vm := by rw [hvm]; exact State.WarmedH.refl s
  have hat' : ∀ w ∈ vx_atS own ic cls names, w.before args s' = true := fun w hw => vx_ot_at hW0 hvm.symm (hgood w (List.mem_cons_of_mem _ (List.mem_cons_of_mem _ hw))) (hat w hw)
  have hk' : (Cond.classLink own ik cls).before args s' = true := vx_ot_at hW0 hvm.symm (hgood _ List.mem_cons_self) hk
  have hini' : (Cond.initialized cls).before args s' = true := vx_ot_at hW0 hvm.symm (hgood _ (List.mem_cons_of_mem _ List.mem_cons_self)) hini
  have hU' : vx_Zq Bundle.tN "UNASSIGNED_STACK" Bundle.steD A s' s'.heap := by rw [hhp]; exact vx_Zq.moved hW0.alike (hU.kept hS.2.1)
  have hN' : vx_Zq Bundle.tN "SUPPRESSED_SENTINEL" Bundle.listD A s' s'.heap := by rw [hhp]; exact vx_Zq.moved hW0.alike (hN.kept hS.2.1)
  have h : ∀ w ∈ Bundle.ownAtoms own ic cls names, w.before args s' = true := vx_own hat' (vx_isRefq hU'.1) (vx_isRefq hN'.1) hU'.2.word hN'.2.word
  have hown' : s'.vm.findClass own = some m.cls := by rw [hvm]; exact hown
  have hins : (Cond.instantiable cls 6).before args s' = true := h _ (by simp [Bundle.ownAtoms])
  obtain ⟨vm₁, cX, kX, hfX, hkX, -, -, X₁, st1⟩ := Y.newCold hexec (own := own) (C := cls) (index := ik) (n := 6) hown' hk' hins hini'
    (g := F0 m pc ls rest) rfl (by rw [hb]; exact d0) (Nat.le_refl _) (Nat.le_refl _)
  generalize hT1 : (T.setVm vm₁).pushCell { cls := cX, slots := kX.instanceTypes.map defaultValue, vm := .none } = T1 at X₁ st1
  have hcat : (Value.ref T.heap.size).category = 1 := rfl
  have hcellA : T1.heap[T.heap.size]? = some (freshCell cX kX) := by rw [← hT1]; exact State.heap_pushCell_size _ _
  have d3' : decode c.code (pc + 3) = .ok (.dup, 1) := by rw [hb]; exact d3
  have d4' : decode c.code (pc + 4) = .ok (.ldc is, 2) := by rw [hb]; exact d4
  have hstr' : vk_R own is text sa s' := vk_R.warm hW0 hstr
  obtain ⟨U, hsteps, hrun, hend, hW, hsame, ce, hce, hO⟩ := X₁.ctorThrowS hexec htr (own := own) (cls := cls) (names := names) (ic := ic) hown' hcls hnames h (fun x hx => nomatch hx) hfX hkX hcellA (by rw [hhp, hT]; exact Nat.le_refl _) (msg := .ref sa) rfl
    (g := { method := m, pc := pc + 6, locals := ls, stack := .ref sa :: .ref T.heap.size :: .ref T.heap.size :: rest, locked := none }) rfl hsize rfl rfl (rest := rest) rfl
    (by rw [hb]; exact d6) (by rw [hb]; exact d9) hout hRframes (by simp only [List.map_cons, List.sum_cons, hcat]; omega) hlocks
  obtain ⟨f1, f2⟩ := vx_frame hsame
  rw [hhp] at f1 f2
  have hWs : s.WarmedH U.vm := State.WarmedH.trans hW0 hW
  have hcl : s.vm.findClass cls = some ce.cls := by
    have h9 := hO.cls
    rw [hvm] at h9
    exact h9
  have hall : s.sameButNew ({ U with vm := s.vm } : State) locs mc ms := by
    subst hA
    obtain ⟨e1, e2⟩ := hsame
    rw [State.setFrames_setFrames] at e1
    have h2 : (T.setVm s.vm).sameButNew ({ U with vm := s.vm } : State) [] (0 + 1) (0 + 6) := ⟨e1, e2⟩
    have h3 := X.same.trans h2
    rw [List.append_nil] at h3
    exact h3.mono hc hs
  refine ⟨U, ?_, .threw T.heap.size, hrun, hend, Or.inr ⟨T.heap.size, rfl, cls, ce, locs, hx U hWs.alike f1 (fun q hq => f2 q hq (fun z hz => nomatch hz)), hce, hO.vm, hcl, hWs, hall, hf⟩⟩
  refine st1 _ ?_
  show Steps p.tables e below (T1.setTop { method := m, pc := pc + 3, locals := ls, stack := .ref T.heap.size :: rest, locked := none }) _
  jvm_step X₁.here [X₁.here.top, hexec, d3', Value.category]
  exact X₁.ldcString hexec (own := own) (text := text) (index := is) (a := sa) hown' hstr'.1 hstr'.2
    (g := { method := m, pc := pc + 4, locals := ls, stack := .ref T.heap.size :: .ref T.heap.size :: rest, locked := none }) rfl d4' _ hsteps
/-- 'throw new E("text")', the text by a wide index -/
theorem vx_throwSW {cc : ByteArray} {pc : Nat} (hexec : p.tables.exec = Jvm.exec) (hb : c.code = cc) (hl : l.stackTraces = false) {own cls text : String} {names : List String} {ik is ic mc ms sa : Nat} {A : Nat → Prop}
    (hown : s.vm.findClass own = some m.cls) (hcls : Bundle.fit cls = true) (hnames : ∀ n ∈ names, Bundle.fit n = true)
    (hk : (Cond.classLink own ik cls).before args s = true) (hini : (Cond.initialized cls).before args s = true) (hstr : vk_R own is text sa s) (hat : ∀ w ∈ vx_atS own ic cls names, w.before args s = true)
    (hgood : ∀ w ∈ Cond.classLink own ik cls :: Cond.initialized cls :: vx_atS own ic cls names, vx_ot w = true)
    (hU : vx_Zq Bundle.tN "UNASSIGNED_STACK" Bundle.steD A s s.heap) (hN : vx_Zq Bundle.tN "SUPPRESSED_SENTINEL" Bundle.listD A s s.heap) (hS : va_S A s.heap H locs) (hsize : ls.size = c.maxLocals)
    (d0 : decode cc pc = .ok (.new ik, 3)) (d3 : decode cc (pc + 3) = .ok (.dup, 1)) (d4 : decode cc (pc + 4) = .ok (.ldc_w is, 3)) (d7 : decode cc (pc + 7) = .ok (.invokespecial ic, 3)) (d10 : decode cc (pc + 10) = .ok (.athrow, 1))
    (hout : ∀ x ∈ c.exceptionTable.toList, covers x (pc + 10) = false)
    (hRframes : names.length + 3 < R.frames) (hRlocals : (rest.map fun v => v.category).sum + (13 * (names.length + 1) + 43) ≤ R.locals) (hRcells : cells + 1 ≤ R.cells) (hRslots : slots + 6 ≤ R.slots) (hlocks : meth.locks = false)
    (hx : ∀ t : State, s.vm.Alike t.vm → H.size ≤ t.heap.size → (∀ q : Nat, q < H.size → t.heap[q]? = H[q]?) → XC cls s t)
    (hf : ∀ z ∈ locs, free z.base) (hc : cells + 1 ≤ mc) (hs : slots + 6 ≤ ms) :
    W p l e R s m args below meth c H locs cells slots (vx_MQ below Qc XC args s mc ms free) (F0 m pc ls rest) := by
  intro T hT X
  have htr : e.platform.stackTraces = false := (show e.platform.stackTraces = l.stackTraces by rw [X.admits.platform]).trans hl
  have Y := vx_rebase X (R' := { frames := R.frames, locals := R.locals, cells := 1, slots := 6 }) (Nat.le_refl _) (Nat.le_refl _) hRcells hRslots
  obtain ⟨s', hA⟩ : ∃ z, z = (T.setVm s.vm).setFrames (.invoking m args :: below) := ⟨_, rfl⟩
  rw [← hA] at Y
  have hvm : s'.vm = s.vm := by rw [hA]; rfl
  have hhp : s'.heap = H := by rw [hA]; exact hT
  have hW0 : s.WarmedH s'.vm := by rw [hvm]; exact State.WarmedH.refl s
  have hat' : ∀ w ∈ vx_atS own ic cls names, w.before args s' = true := fun w hw => vx_ot_at hW0 hvm.symm (hgood w (List.mem_cons_of_mem _ (List.mem_cons_of_mem _ hw))) (hat w hw)
  have hk' : (Cond.classLink own ik cls).before args s' = true := vx_ot_at hW0 hvm.symm (hgood _ List.mem_cons_self) hk
  have hini' : (Cond.initialized cls).before args s' = true := vx_ot_at hW0 hvm.symm (hgood _ (List.mem_cons_of_mem _ List.mem_cons_self)) hini
  have hU' : vx_Zq Bundle.tN "UNASSIGNED_STACK" Bundle.steD A s' s'.heap := by rw [hhp]; exact vx_Zq.moved hW0.alike (hU.kept hS.2.1)
  have hN' : vx_Zq Bundle.tN "SUPPRESSED_SENTINEL" Bundle.listD A s' s'.heap := by rw [hhp]; exact vx_Zq.moved hW0.alike (hN.kept hS.2.1)
  have h : ∀ w ∈ Bundle.ownAtoms own ic cls names, w.before args s' = true := vx_own hat' (vx_isRefq hU'.1) (vx_isRefq hN'.1) hU'.2.word hN'.2.word
  have hown' : s'.vm.findClass own = some m.cls := by rw [hvm]; exact hown
  have hins : (Cond.instantiable cls 6).before args s' = true := h _ (by simp [Bundle.ownAtoms])
  obtain ⟨vm₁, cX, kX, hfX, hkX, -, -, X₁, st1⟩ := Y.newCold hexec (own := own) (C := cls) (index := ik) (n := 6) hown' hk' hins hini'
    (g := F0 m pc ls rest) rfl (by rw [hb]; exact d0) (Nat.le_refl _) (Nat.le_refl _)
  generalize hT1 : (T.setVm vm₁).pushCell { cls := cX, slots := kX.instanceTypes.map defaultValue, vm := .none } = T1 at X₁ st1
  have hcat : (Value.ref T.heap.size).category = 1 := rfl
  have hcellA : T1.heap[T.heap.size]? = some (freshCell cX kX) := by rw [← hT1]; exact State.heap_pushCell_size _ _
  have d3' : decode c.code (pc + 3) = .ok (.dup, 1) := by rw [hb]; exact d3
  have d4' : decode c.code (pc + 4) = .ok (.ldc_w is, 3) := by rw [hb]; exact d4
  have hstr' : vk_R own is text sa s' := vk_R.warm hW0 hstr
  obtain ⟨U, hsteps, hrun, hend, hW, hsame, ce, hce, hO⟩ := X₁.ctorThrowS hexec htr (own := own) (cls := cls) (names := names) (ic := ic) hown' hcls hnames h (fun x hx => nomatch hx) hfX hkX hcellA (by rw [hhp, hT]; exact Nat.le_refl _) (msg := .ref sa) rfl
    (g := { method := m, pc := pc + 7, locals := ls, stack := .ref sa :: .ref T.heap.size :: .ref T.heap.size :: rest, locked := none }) rfl hsize rfl rfl (rest := rest) rfl
    (by rw [hb]; exact d7) (by rw [hb]; exact d10) hout hRframes (by simp only [List.map_cons, List.sum_cons, hcat]; omega) hlocks
  obtain ⟨f1, f2⟩ := vx_frame hsame
  rw [hhp] at f1 f2
  have hWs : s.WarmedH U.vm := State.WarmedH.trans hW0 hW
  have hcl : s.vm.findClass cls = some ce.cls := by
    have h9 := hO.cls
    rw [hvm] at h9
    exact h9
  have hall : s.sameButNew ({ U with vm := s.vm } : State) locs mc ms := by
    subst hA
    obtain ⟨e1, e2⟩ := hsame
    rw [State.setFrames_setFrames] at e1
    have h2 : (T.setVm s.vm).sameButNew ({ U with vm := s.vm } : State) [] (0 + 1) (0 + 6) := ⟨e1, e2⟩
    have h3 := X.same.trans h2
    rw [List.append_nil] at h3
    exact h3.mono hc hs
  refine ⟨U, ?_, .threw T.heap.size, hrun, hend, Or.inr ⟨T.heap.size, rfl, cls, ce, locs, hx U hWs.alike f1 (fun q hq => f2 q hq (fun z hz => nomatch hz)), hce, hO.vm, hcl, hWs, hall, hf⟩⟩
  refine st1 _ ?_
  show Steps p.tables e below (T1.setTop { method := m, pc := pc + 3, locals := ls, stack := .ref T.heap.size :: rest, locked := none }) _
  jvm_step X₁.here [X₁.here.top, hexec, d3', Value.category]
  exact X₁.ldcStringW hexec (own := own) (text := text) (index := is) (a := sa) hown' hstr'.1 hstr'.2
    (g := { method := m, pc := pc + 4, locals := ls, stack := .ref T.heap.size :: .ref T.heap.size :: rest, locked := none }) rfl d4' _ hsteps
end Ends
section Bodies
variable {l : Launch}
theorem vx_ofW {y : MethodName} {ws ws' : List Cond} {rm : Room} {Pc : Array Value → State → Prop} {Qc : Array Value → State → Outcome → State → Prop} {XC : String → State → State → Prop} {mc ms : Nat} {free : Addr → Prop} {cc : ByteArray} {maxL : Nat} {ret : Option FieldType}
    (hy : plainName y.cls = true) (hw : ws = Cond.code y cc maxL ret :: ws')
    (body : ∀ p e s m args below meth c s₁, BodyLoose p l y (headSpec ws rm) cc maxL ret e s m args below meth c s₁ → c.maxLocals = maxL → (∀ x ∈ c.exceptionTable.toList, False) → Pc args s →
      W p l e (headSpec ws rm).room s m args below meth c s.heap [] 0 0 (vx_MQ below Qc XC args s mc ms free) (entryFrame m args maxL)) : vx_Met l y ws rm Pc Qc XC mc ms free := by
  refine MetFree.of_bodyS (code := cc) (maxLocals := maxL) (ret := ret) hy ?_ ?_
  · intro args s m h hn
    obtain ⟨meth, c, h1, h2, h3, h4, h5, h6, -, -⟩ := Cond.code_spec hn (atoms_spec (ws := ws) h _ (by rw [hw]; exact List.mem_cons_self))
    exact ⟨meth, c, h1, h2, h3, h4, h5, h6⟩
  · intro p e s m args below meth c s₁ B hml hP _
    have hh0 : s₁.heap = s.heap := by rw [B.state]; rfl
    have ht : ∀ x ∈ c.exceptionTable.toList, False := by
      obtain ⟨meth9, c9, h1, h2, -, -, -, -, h7, -⟩ := Cond.code_spec B.named (atoms_spec (ws := ws) B.pre _ (by rw [hw]; exact List.mem_cons_self))
      cases Option.some.inj (h1.symm.trans B.method)
      cases Option.some.inj (h2.symm.trans (Stand.of_body B).code)
      intro x hx
      rw [Array.isEmpty_iff.mp h7] at hx
      cases hx
    obtain ⟨t, a1, o, b1, b2, b3⟩ := body p e s m args below meth c s₁ B hml ht hP s₁ hh0 (Stand.of_body B)
    exact ⟨t, o, a1, b1, b2, b3⟩
/-- the table of a body with handlers -/
theorem vx_table {p : Program} {x y : MethodName} {S : Spec} {cc bytes : ByteArray} {maxL maxL' : Nat} {ret ret' : Option FieldType} {e : Env} {s s₁ : State} {m : MethodId} {args : Array Value} {below : List Frame} {meth : Method} {c : Code} {hh : List (Nat × Nat × Nat × Nat)}
    (B : BodyLoose p l y S cc maxL ret e s m args below meth c s₁) (h : (Cond.codeWith y bytes maxL' ret' hh).before args s = true) : c.exceptionTable.toList = tableOf hh := by
  obtain ⟨m9, meth9, c9, hn9, h1, h2, -, -, h6, -⟩ := Cond.codeWith_spec h
  cases Option.some.inj (hn9.symm.trans B.named)
  cases Option.some.inj (h1.symm.trans B.method)
  cases Option.some.inj (h2.symm.trans (Stand.of_body B).code)
  rw [← h6, table_eq]
end Bodies
end VXA
/-! ===== END ===== -/
/-! ===== BEGIN a static call of a method with an exception table ===== -/
section VXS
variable {p : Program} {l : Launch} {e : Env} {R : Room} {s : State} {m : MethodId} {args : Array Value} {below : List Frame} {meth : Method} {c : Code} {T : State} {H : Heap} {locs : List Loc} {cells slots : Nat}
abbrev vx_CSW (R : Room) (s : State) (args : Array Value) (own : String) (index : Nat) (y : MethodName) (bytes : ByteArray) (maxL : Nat) (ret : Option FieldType) (hh : List (Nat × Nat × Nat × Nat)) (ws : List Cond) (rm : Room) (mc ms n : Nat) : Prop :=
  (rm.cells = mc ∧ rm.slots = ms ∧ rm.frames + 1 ≤ R.frames ∧ 8 + (maxL + 11) + rm.locals ≤ R.locals ∧ (∀ w ∈ ws, ∀ (a' : Array Value) (U : State), s.WarmedH U.vm → w.before a' U = true) ∧ Cond.codeWith y bytes maxL ret hh ∈ ws) ∧
  (Cond.codeWith y bytes maxL ret hh).before args s = true ∧ (Cond.initialized y.cls).before args s = true ∧ (y.cls ≠ "java/lang/invoke/MethodHandle" ∧ y.cls ≠ "java/lang/invoke/VarHandle") ∧
  (∀ sig, parseMethodDescriptor y.desc = some sig → n = sig.parameters.length) ∧ (Cond.methodLink own index y).before args s = true ∧ (Cond.static y).before args s = true
theorem vx_cwSW {own : String} {index maxL mc ms : Nat} {y : MethodName} {bytes : ByteArray} {ret : Option FieldType} {hh : List (Nat × Nat × Nat × Nat)} {Ts ws ws' : List Cond} {rm : Room} (n : Nat) (ht : ∀ w ∈ Ts, w.before args s = true) (hT : GoodIn Ts (va_wsS own index y ws)) (hw : ws = Cond.codeWith y bytes maxL ret hh :: ws') (hrc : rm.cells = mc) (hrs : rm.slots = ms)
    (hd : y.cls ≠ "java/lang/invoke/MethodHandle" ∧ y.cls ≠ "java/lang/invoke/VarHandle" ∧ (parseMethodDescriptor y.desc).map (fun d => d.parameters.length) = some n) (hR : rm.frames + 1 ≤ R.frames ∧ 8 + (maxL + 11) + rm.locals ≤ R.locals) :
    vx_CSW R s args own index y bytes maxL ret hh ws rm mc ms n := by
  have ok : ∀ w ∈ va_wsS own index y ws, w.before args s = true := fun w h => ht w (hT w h).1
  have hG : GoodIn Ts ws := fun w h => hT w (by unfold va_wsS; exact List.mem_append_right _ h)
  have hc : Cond.codeWith y bytes maxL ret hh ∈ ws := by rw [hw]; exact List.mem_cons_self
  refine ⟨⟨hrc, hrs, hR.1, hR.2, pay_in ht hG, hc⟩, ht _ (hG _ hc).1, ok _ (by simp [va_wsS]), ⟨hd.1, hd.2.1⟩, fun sig h => ?_, ok _ (by simp [va_wsS]), ok _ (by simp [va_wsS])⟩
  have h2 := hd.2.2
  rw [h] at h2
  exact (Option.some.inj h2).symm
theorem vx_callSW (X : Stand p l e R s m args below meth c T locs cells slots) (hexec : p.tables.exec = Jvm.exec) {own : String} {index : Nat} {y : MethodName} {bytes : ByteArray} {maxL : Nat} {ret : Option FieldType} {hh : List (Nat × Nat × Nat × Nat)}
    (hown : s.vm.findClass own = some m.cls) (hlink : (Cond.methodLink own index y).before args s = true) (hstat : (Cond.static y).before args s = true) (hinit : (Cond.initialized y.cls).before args s = true)
    (hcode : (Cond.codeWith y bytes maxL ret hh).before args s = true) (hy : y.cls ≠ "java/lang/invoke/MethodHandle" ∧ y.cls ≠ "java/lang/invoke/VarHandle")
    {W9 : Nat} {Pre : Pt → Array Value → Prop} {Post : Pt → Array Value → Option Value → Pt → Prop} (hK : Back l R p e below s args y 3 W9 Pre Post)
    {g : JFrame} (hg : g.method = m) (hsize : g.locals.size = c.maxLocals) {argsL rest : List Value} (hlen : ∀ sig, parseMethodDescriptor y.desc = some sig → argsL.length = sig.parameters.length)
    (hstack : g.stack = argsL.reverse ++ rest) (hW : 2 * g.monitorRoom + (rest.map fun v => v.category).sum ≤ W9) (hdg : decode c.code g.pc = .ok (.invokestatic index, 3))
    (hpre : ∀ vm₁, s.WarmedH vm₁ → Pre ⟨T.setVm vm₁, locs, cells, slots⟩ argsL.toArray) :
    ∃ (v : Option Value) (vm₁ : Vm) (B : Pt), s.WarmedH vm₁ ∧ Stand p l e R s m args below meth c B.U B.locs B.cells B.slots ∧ Post ⟨T.setVm vm₁, locs, cells, slots⟩ argsL.toArray v B ∧
      ∀ target, Steps p.tables e below (B.U.setTop { g with pc := g.pc + 3, stack := v.toList ++ rest }) target → Steps p.tables e below (T.setTop g) target := by
  obtain ⟨mk, methM, cM, hnamed, hmethM, -, -, -, -, -, -, hsigM⟩ := Cond.codeWith_spec hcode
  have hstatic : methM.isStatic = true := Cond.static_spec hnamed hmethM hstat
  obtain ⟨kP, hkP, -⟩ := className_of_methodNamed hnamed
  have hinitP : kP.init = .initialized := Cond.initialized_spec (findClass_of_methodNamed hnamed) hkP hinit
  obtain ⟨vm₁, X₁, hstep₁⟩ := X.invokestatic hexec hown hlink hnamed hmethM hstatic hkP hinitP hy (g := g) hg (argsL := argsL) (rest := rest) (hlen _ hsigM) hstack hdg
  obtain ⟨v, B, X', hpost, hsteps⟩ := hK m meth c ⟨T.setVm vm₁, locs, cells, slots⟩ { g with stack := rest } (.invokestatic index) mk argsL.toArray X₁ hg hsize hdg hW (X₁.named hnamed) (hpre vm₁ X₁.warmed)
  exact ⟨v, vm₁, B, X₁.warmed, X', hpost, fun target h => hstep₁ _ fun acts => by rw [doInvoke_state]; exact hsteps.trans h⟩
theorem vx_runSW {y : MethodName} {bytes cc : ByteArray} {maxL nL mc ms n index : Nat} {ret : Option FieldType} {hh : List (Nat × Nat × Nat × Nat)} {ws : List Cond} {rm : Room} {Pc : Array Value → State → Prop} {Qc : Array Value → State → Outcome → State → Prop} {free : Addr → Prop} {Ts : List Cond} {own : String} {As rest : List Value} {g : JFrame}
    (S : CallFix p m c cc nL s args Ts own) (hM : Met l y ws rm Pc Qc mc ms free) (cw : vx_CSW R s args own index y bytes maxL ret hh ws rm mc ms n) (hp : PreS s H Pc As)
    (hg : g.method = m) (hn : As.length = n) (hsize : g.locals.size = nL) (hstack : g.stack = As.reverse ++ rest) (hW : 2 * g.monitorRoom + (rest.map fun v => v.category).sum ≤ 8) (hdg : decode cc g.pc = .ok (.invokestatic index, 3)) (hf : cells + mc ≤ R.cells ∧ slots + ms ≤ R.slots) :
    va_Run p l e R s m args below meth c H locs cells slots mc ms g rest (Qc As.toArray) (free) := by
  obtain ⟨⟨hrc, hrs, hfr, hlo, hws, hcw⟩, hcode, hini, hy, hlen, hl, hstt⟩ := cw
  have hK : Back l R p e below s args y 3 8 (PreOf R mc ms Pc) (PostOf Qc mc ms free) := va_backW (hh := hh) (bytes := bytes) (maxL := maxL) (ret := ret) hM hp.1 hrc hrs hfr hlo hws hcw (fun a' U hW => word_at hW (Or.inl (by first | rfl | simp [Cond.onTables, Cond.keeps, Cond.steady])) hini)
  obtain ⟨hx, hb, hml, ho, -⟩ := S
  intro T hT X
  obtain ⟨v, vm₁, ⟨U', l2, c2, s2⟩, hW₁, X', ⟨g', mk, t, L, e1, e2, hq, h1, hL, h2, h3⟩, st⟩ := vx_callSW X hx (hh := hh) (bytes := bytes) (maxL := maxL) (ret := ret) ho hl hstt hini hcode hy hK hg (hsize.trans hml.symm) (argsL := As) (rest := rest) (fun sig h => hn.trans (hlen sig h)) hstack hW (by rw [hb]; exact hdg)
    (fun vm₁ hW₁ => ⟨hf.1, hf.2, hp.2 (T.setVm vm₁) hT hW₁⟩)
  dsimp only [Pt.U, Pt.locs, Pt.cells, Pt.slots] at X' e1 e2 h1 h2 h3 st
  subst h1; subst h2; subst h3
  exact ⟨v, (T.setVm vm₁).calling g' mk As.toArray, t, U', L, hT, X', hL, e1, e2, hq, st⟩
/-- not caught here, past rows that name other classes: it goes on to the caller -/
theorem vx_outP {p : Program} {l : Launch} {e : Env} {R : Room} {s : State} {m : MethodId} {args : Array Value} {below : List Frame} {meth : Method} {c : Code} {H : Heap} {locs : List Loc} {cells slots : Nat} {free : Addr → Prop} {ls : Array Slot} {rest : List Value} {Qc : Array Value → State → Outcome → State → Prop} {XC : String → State → State → Prop}
    {pc : Nat} {own E : String} {ce : Cell} {q : Addr} {mc ms : Nat} (hown : s.vm.findClass own = some m.cls) (hlocks : meth.locks = false)
    (hpass : ∀ z ∈ c.exceptionTable.toList, covers z pc = false ∨ (z.catchType ≠ 0 ∧ ∃ nm : String, (Cond.classLink own z.catchType nm).before args s = true ∧ va_Nc E nm s)) (hcell : H[q]? = some ce) (hv : ce.vm = .none) (hcl : s.vm.findClass E = some ce.cls)
    (hx : ∀ t : State, t.heap = H → s.vm.Alike t.vm → XC E s t) (hf : ∀ z ∈ locs, free z.base) (hc : cells ≤ mc) (hs : slots ≤ ms) :
    vx_W p l e R s m args below meth c H locs cells slots (vx_MQ below Qc XC args s mc ms free) (F0 m pc ls rest) q := by
  intro T hT X
  have hpl : e.platform.magicAccessors = ({} : Platform).magicAccessors := by rw [X.admits.platform]
  obtain ⟨vm', hW', X', st⟩ := X.outThrough hlocks q (g := F0 m pc ls rest) rfl rfl rfl (cell := ce) (by rw [hT]; exact hcell) (by rw [hv]; rfl)
    (by obtain ⟨k9, h9, -⟩ := Vm.findClass_spec hcl; exact ⟨k9, h9⟩) (fun z hz => by
      rcases hpass z hz with h | ⟨hz0, nm, hl1, hn1⟩
      · exact Or.inl h
      · obtain ⟨c6, hc6, hcl6⟩ := Cond.classLink_spec hown hl1 e.platform hpl
        obtain ⟨a8, b8, h1, h2, h3⟩ := hn1
        cases Option.some.inj (h1.symm.trans hcl)
        cases Option.some.inj (h2.symm.trans hc6)
        exact Or.inr ⟨hz0, _, hcl6, h3⟩)
  obtain ⟨g₀, hfr⟩ := X'.frames_eq
  have hcell9 : ((T.setVm vm').setFrames (.throwing q :: below)).heap[q]? = some ce := by
    show T.heap[q]? = some ce
    rw [hT]; exact hcell
  have hend : Ended ((T.setVm vm').setFrames (.throwing q :: below)) below (.threw q) := State.frames_setFrames _ (State.cur_lt_of_frames hfr)
  refine ⟨(T.setVm vm').setFrames (.throwing q :: below), ?_, .threw q, X'.here.running, hend, Or.inr ⟨q, rfl, E, ce, locs, hx _ hT (X'.ends _).1.alike, hcell9, hv, hcl, (X'.ends _).1, (X'.ends _).2.mono hc hs, hf⟩⟩
  rw [X.pushThrowing_eq]
  exact st
/-- a thing of a world lies in the heap -/
theorem vx_lt {D : va_G} {cl : List vw_C} {ws : va_W} {H1 : Heap} (h : va_P D cl ws H1) {k : Nat} {q : Nat × va_E} (hk : ws[k]? = some q) : q.1 < H1.size := (h k q hk).lt
end VXS
/-! ===== END ===== -/
/-! ===== BEGIN methods with a table of their own: called by a name, returning or throwing ===== -/
section VXH
/-! vx_backW, vx_callVX, vx_callSX, vx_callVW, vx_runVW, vx_runVX, vx_runSX, vx_ofWH follow the same proofs as their sisters above (Free/Laws.lean, Shelf42/LK1.lean); vx_outP calls Shelf42/NT130.lean (outThrough). -/
section
variable {l : Launch} {R : Room} {p : Program} {e : Env} {below : List Frame} {s : State} {sargs : Array Value} {y : MethodName} {len W9 : Nat}
theorem vx_backW {ws : List Cond} {rm : Room} {Pc : Array Value → State → Prop} {Qc : Array Value → State → Outcome → State → Prop} {XC : String → State → State → Prop} {mc ms : Nat} {free : Addr → Prop} {bytes : ByteArray} {maxL : Nat} {ret : Option FieldType} {hh : List (Nat × Nat × Nat × Nat)}
    (hM : vx_Met l y ws rm Pc Qc XC mc ms free) (hblind : FrameBlind Pc) (hrc : rm.cells = mc) (hrs : rm.slots = ms)
    (hframes : rm.frames + 1 ≤ R.frames) (hlocals : W9 + (maxL + 11) + rm.locals ≤ R.locals)
    (hws : ∀ w ∈ ws, ∀ a' U, s.WarmedH U.vm → w.before a' U = true) (hcode : Cond.codeWith y bytes maxL ret hh ∈ ws) (hinit : ∀ a' U, s.WarmedH U.vm → (Cond.initialized y.cls).before a' U = true) :
    vx_Back l R p e below s sargs y len W9 (PreOf R mc ms Pc) (PostOf Qc mc ms free) (vx_Post XC mc ms free) := by
  intro m meth c A g ig mk a X hg hsize hdg hW hn hp
  have h1 : (headSpec ws rm).pre.before a A.U = true := atoms_intro fun w hw => hws w hw _ _ X.warmed
  have h2 : (Cond.codeWith y bytes maxL ret hh).before a A.U = true := hws _ hcode _ _ X.warmed
  have h3 : (Cond.initialized y.cls).before a A.U = true := hinit _ _ X.warmed
  have h4 : A.cells + (headSpec ws rm).room.cells ≤ R.cells := by rw [show (headSpec ws rm).room.cells = mc from hrc]; exact hp.1
  have h5 : A.slots + (headSpec ws rm).room.slots ≤ R.slots := by rw [show (headSpec ws rm).room.slots = ms from hrs]; exact hp.2.1
  have hPc : Pc a (A.U.calling g mk a) := hblind _ _ _ _ hp.2.2
  obtain ⟨U, Ls, c0, s0⟩ := A
  dsimp only [Pt.U, Pt.locs, Pt.cells, Pt.slots] at h1 h2 h3 h4 h5 X hn hPc ⊢
  obtain ⟨m9, methY, cY, hn9, hmY, hcY, -, hlY, -⟩ := Cond.codeWith_spec h2
  cases Option.some.inj (hn9.symm.trans hn)
  obtain ⟨kY, hkY, -⟩ := className_of_methodNamed hn
  have hinitY : kY.init = .initialized := Cond.initialized_spec (findClass_of_methodNamed hn) hkY h3
  have h : At U g.method c below := by rw [hg]; exact X.here
  have hlocals9 : W9 + (maxL + 11) + (headSpec ws rm).room.locals ≤ R.locals := hlocals
  have happ : (headSpec ws rm).appliesLoose y e.platform (U.calling g mk a) = true :=
    Spec.appliesLoose_calling (g := g) h hdg hn hkY hinitY
      (X.room_calling (g := g) (R' := (headSpec ws rm).room) hsize hmY hcY hframes (by rw [hlY]; omega) h4 h5) h1
  obtain ⟨mid, hmid⟩ := h.above
  have hfr : (U.setTop g).frames = (.java g :: mid) ++ below := by rw [State.frames_setTop' g h.top, hmid]; rfl
  obtain ⟨o, s₂, hsteps, -, hend, hq⟩ := Steps.callFree hM p X.admits X.cas X.clock (acts := []) hfr happ hPc trivial
  have hq' : vx_Q Qc XC mc ms free a (U.calling g mk a) o s₂ := hq
  rw [State.frames_setTop' g h.top] at hend
  obtain ⟨g₀, hg0⟩ := Option.isSome_iff_exists.mp h.top
  obtain ⟨r, hr⟩ := State.topJava?_eq_some.mp hg0
  have hr' : (({ U with heap := s₂.heap, slotsUsed := s₂.slotsUsed } : State).setVm s₂.vm).frames = .java g₀ :: r := hr
  rcases hq' with ⟨hqc, L, hfe, hL⟩ | ⟨q, rfl, E, ce, L, hx, hce, hcv, hcl, hW₂, hsm, hL⟩
  · obtain ⟨⟨v, rfl⟩, hW₂, e2, q2, q3, q4, q5, q6⟩ := id hfe
    have e3 : s₂ = ({ (U.calling g mk a).setFrames s₂.frames with heap := s₂.heap, slotsUsed := s₂.slotsUsed } : State).setVm s₂.vm := by
      have : s₂ = ({ s₂ with vm := (U.calling g mk a).vm } : State).setVm s₂.vm := rfl
      rw [e2] at this
      exact this
    obtain ⟨c₂, i₂, len₂, hc₂, hd₂, hf₂⟩ := hend
    have hW' : U.WarmedH s₂.vm := hW₂
    have hcc : c₂ = c := by
      have h1 : s₂.code? g.method = U.code? g.method := by
        rw [State.code?_eq, State.code?_eq, hW'.alike.method?]
      exact Option.some.inj (hc₂.symm.trans (h1.trans h.code))
    subst hcc
    have hlen : len₂ = len := by rw [hdg] at hd₂; cases hd₂; rfl
    subst hlen
    have hs₂ : s₂ = (({ U with heap := s₂.heap, slotsUsed := s₂.slotsUsed } : State).setVm s₂.vm).setTop { g with pc := g.pc + len₂, stack := v.toList ++ g.stack } := by
      refine e3.trans ?_
      rw [hf₂, State.calling_eq h.top, State.setFrames_setFrames, State.setTop_of_frames _ hr', hr]
      rfl
    have hsame : U.sameButNew ({ U with heap := s₂.heap, slotsUsed := s₂.slotsUsed } : State) L mc ms := by
      refine ⟨?_, q2, q3, q4, q5, q6⟩
      obtain ⟨t, ht, -⟩ := State.frames_cons hr
      show ({ U with heap := s₂.heap, slotsUsed := s₂.slotsUsed } : State) = { U.setFrames U.frames with heap := s₂.heap, slotsUsed := s₂.slotsUsed }
      rw [State.setFrames_self ht]
    subst hg
    refine Or.inl ⟨v, ⟨(({ U with heap := s₂.heap, slotsUsed := s₂.slotsUsed } : State).setVm s₂.vm), Ls ++ L, c0 + mc, s0 + ms⟩,
      ⟨X.admits, X.cas, X.clock, X.frames, X.room, X.hears, X.method, X.code, (X.here.setHeapUsed s₂.heap s₂.slotsUsed).setVm hW'.alike, X.tail, State.WarmedH.trans X.warmed hW', X.limits, X.bytes, X.same.trans (hsame.setVm s.vm)⟩,
      ⟨g, mk, s₂, L, rfl, rfl, hqc, rfl, hL, rfl, rfl⟩, ?_⟩
    show Steps p.tables e below _ ((({ U with heap := s₂.heap, slotsUsed := s₂.slotsUsed } : State).setVm s₂.vm).setTop { g with pc := g.pc + len₂, stack := v.toList ++ g.stack })
    rw [← hs₂]
    exact hsteps
  · obtain ⟨e2, q2, q3, q4, q5, q6⟩ := id hsm
    have e3 : s₂ = ({ (U.calling g mk a).setFrames s₂.frames with heap := s₂.heap, slotsUsed := s₂.slotsUsed } : State).setVm s₂.vm := by
      have : s₂ = ({ s₂ with vm := (U.calling g mk a).vm } : State).setVm s₂.vm := rfl
      rw [e2] at this
      exact this
    have hf₂ : s₂.frames = .throwing q :: .java g :: U.frames.tail := hend
    have hW' : U.WarmedH s₂.vm := hW₂
    have hs₂ : s₂ = ((({ U with heap := s₂.heap, slotsUsed := s₂.slotsUsed } : State).setVm s₂.vm).setTop g).pushFrame (.throwing q) := by
      refine e3.trans ?_
      rw [hf₂, State.calling_eq h.top, State.setFrames_setFrames, State.pushFrame, State.frames_setTop _ hr', State.setTop_of_frames _ hr', State.setFrames_setFrames, hr]
      rfl
    have hsame : U.sameButNew ({ U with heap := s₂.heap, slotsUsed := s₂.slotsUsed } : State) L mc ms := by
      refine ⟨?_, q2, q3, q4, q5, q6⟩
      obtain ⟨t, ht, -⟩ := State.frames_cons hr
      show ({ U with heap := s₂.heap, slotsUsed := s₂.slotsUsed } : State) = { U.setFrames U.frames with heap := s₂.heap, slotsUsed := s₂.slotsUsed }
      rw [State.setFrames_self ht]
    subst hg
    refine Or.inr ⟨q, ⟨(({ U with heap := s₂.heap, slotsUsed := s₂.slotsUsed } : State).setVm s₂.vm), Ls ++ L, c0 + mc, s0 + ms⟩,
      ⟨X.admits, X.cas, X.clock, X.frames, X.room, X.hears, X.method, X.code, (X.here.setHeapUsed s₂.heap s₂.slotsUsed).setVm hW'.alike, X.tail, State.WarmedH.trans X.warmed hW', X.limits, X.bytes, X.same.trans (hsame.setVm s.vm)⟩,
      ⟨g, mk, s₂, L, E, ce, rfl, rfl, hx, hce, hcv, hcl, rfl, hL, rfl, rfl⟩, ?_⟩
    show Steps p.tables e below _ (((({ U with heap := s₂.heap, slotsUsed := s₂.slotsUsed } : State).setVm s₂.vm).setTop g).pushFrame (.throwing q))
    rw [← hs₂]
    exact hsteps
end
variable {p : Program} {l : Launch} {e : Env} {R : Room} {s : State} {m : MethodId} {args : Array Value} {below : List Frame} {meth : Method} {c : Code} {T : State} {H : Heap} {locs : List Loc} {cells slots : Nat}
theorem vx_callVX (X : Stand p l e R s m args below meth c T locs cells slots) (hexec : p.tables.exec = Jvm.exec) {own C : String} {index : Nat} {y : MethodName} {bytes : ByteArray} {maxL : Nat} {ret : Option FieldType} {hh : List (Nat × Nat × Nat × Nat)}
    (hown : s.vm.findClass own = some m.cls) (hlink : (Cond.methodLink own index y).before args s = true) (hinst : (Cond.instanceMethod y).before args s = true) (hsel : (Cond.selects C y y).before args s = true)
    (hcode : (Cond.codeWith y bytes maxL ret hh).before args s = true) (hy : y.cls ≠ "java/lang/invoke/MethodHandle" ∧ y.cls ≠ "java/lang/invoke/VarHandle")
    {W9 : Nat} {Pre : Pt → Array Value → Prop} {Post : Pt → Array Value → Option Value → Pt → Prop} {PostX : Pt → Array Value → Addr → Pt → Prop} (hK : vx_Back l R p e below s args y 3 W9 Pre Post PostX)
    {b : Addr} {cellB : Cell} (hcell : T.heap[b]? = some cellB) (hobj : cellB.vm.isStatics = false) (hcls : s.vm.findClass C = some cellB.cls)
    {g : JFrame} (hg : g.method = m) (hsize : g.locals.size = c.maxLocals) {argsL rest : List Value} (hlen : ∀ sig, parseMethodDescriptor y.desc = some sig → argsL.length = sig.parameters.length)
    (hstack : g.stack = argsL.reverse ++ .ref b :: rest) (hW : 2 * g.monitorRoom + (rest.map fun v => v.category).sum ≤ W9) (hdg : decode c.code g.pc = .ok (.invokevirtual index, 3))
    (hpre : ∀ vm₁, s.WarmedH vm₁ → Pre ⟨T.setVm vm₁, locs, cells, slots⟩ (Value.ref b :: argsL).toArray) :
    (∃ (v : Option Value) (vm₁ : Vm) (B : Pt), s.WarmedH vm₁ ∧ Stand p l e R s m args below meth c B.U B.locs B.cells B.slots ∧ Post ⟨T.setVm vm₁, locs, cells, slots⟩ (Value.ref b :: argsL).toArray v B ∧
      ∀ target, Steps p.tables e below (B.U.setTop { g with pc := g.pc + 3, stack := v.toList ++ rest }) target → Steps p.tables e below (T.setTop g) target) ∨
    (∃ (q : Addr) (vm₁ : Vm) (B : Pt), s.WarmedH vm₁ ∧ Stand p l e R s m args below meth c B.U B.locs B.cells B.slots ∧ PostX ⟨T.setVm vm₁, locs, cells, slots⟩ (Value.ref b :: argsL).toArray q B ∧
      Steps p.tables e below (T.setTop g) ((B.U.setTop { g with stack := rest }).pushFrame (.throwing q))) := by
  obtain ⟨mk, methM, hnamed, hmethM, hstM, habM⟩ := Cond.instanceMethod_spec hinst
  obtain ⟨m8, methM', cM, hn8, hmethM', -, -, -, -, -, -, hsigM⟩ := Cond.codeWith_spec hcode
  cases Option.some.inj (hn8.symm.trans hnamed)
  cases hmethM.symm.trans hmethM'
  obtain ⟨c2, r2, m2, q1, q2, q3, q4, kP, hkP, hkPi⟩ := Cond.selects_spec hsel
  cases hcls.symm.trans q1
  cases (State.methodFound?_of_named hnamed hy).symm.trans q2
  cases hnamed.symm.trans q3
  have hselP : selectMethod e.platform s.vm cellB.cls mk = .method mk := by rw [Launch.admits_selectMethod X.admits]; exact q4
  obtain ⟨vm₁, X₁, hstep₁⟩ := X.invokevirtual hexec hown hlink hnamed hmethM hstM hkP hkPi hy (a := b) (cell := cellB) hcell
    (fun z h => by rw [h] at hobj; cases hobj) hselP hmethM habM hkP hkPi (g := g) hg (argsL := argsL) (rest := rest) (hlen _ hsigM) hstack hdg
  rcases hK m meth c ⟨T.setVm vm₁, locs, cells, slots⟩ { g with stack := rest } (.invokevirtual index) mk (Value.ref b :: argsL).toArray X₁ hg hsize hdg hW (X₁.named hnamed) (hpre vm₁ X₁.warmed) with ⟨v, B, X', hpost, hsteps⟩ | ⟨q, B, X', hpost, hsteps⟩
  · exact Or.inl ⟨v, vm₁, B, X₁.warmed, X', hpost, fun target h => hstep₁ _ fun acts => by rw [doInvoke_state]; exact hsteps.trans h⟩
  · exact Or.inr ⟨q, vm₁, B, X₁.warmed, X', hpost, hstep₁ _ fun acts => by rw [doInvoke_state]; exact hsteps⟩
theorem vx_callSX (X : Stand p l e R s m args below meth c T locs cells slots) (hexec : p.tables.exec = Jvm.exec) {own : String} {index : Nat} {y : MethodName} {bytes : ByteArray} {maxL : Nat} {ret : Option FieldType} {hh : List (Nat × Nat × Nat × Nat)}
    (hown : s.vm.findClass own = some m.cls) (hlink : (Cond.methodLink own index y).before args s = true) (hstat : (Cond.static y).before args s = true) (hinit : (Cond.initialized y.cls).before args s = true)
    (hcode : (Cond.codeWith y bytes maxL ret hh).before args s = true) (hy : y.cls ≠ "java/lang/invoke/MethodHandle" ∧ y.cls ≠ "java/lang/invoke/VarHandle")
    {W9 : Nat} {Pre : Pt → Array Value → Prop} {Post : Pt → Array Value → Option Value → Pt → Prop} {PostX : Pt → Array Value → Addr → Pt → Prop} (hK : vx_Back l R p e below s args y 3 W9 Pre Post PostX)
    {g : JFrame} (hg : g.method = m) (hsize : g.locals.size = c.maxLocals) {argsL rest : List Value} (hlen : ∀ sig, parseMethodDescriptor y.desc = some sig → argsL.length = sig.parameters.length)
    (hstack : g.stack = argsL.reverse ++ rest) (hW : 2 * g.monitorRoom + (rest.map fun v => v.category).sum ≤ W9) (hdg : decode c.code g.pc = .ok (.invokestatic index, 3))
    (hpre : ∀ vm₁, s.WarmedH vm₁ → Pre ⟨T.setVm vm₁, locs, cells, slots⟩ argsL.toArray) :
    (∃ (v : Option Value) (vm₁ : Vm) (B : Pt), s.WarmedH vm₁ ∧ Stand p l e R s m args below meth c B.U B.locs B.cells B.slots ∧ Post ⟨T.setVm vm₁, locs, cells, slots⟩ argsL.toArray v B ∧
      ∀ target, Steps p.tables e below (B.U.setTop { g with pc := g.pc + 3, stack := v.toList ++ rest }) target → Steps p.tables e below (T.setTop g) target) ∨
    (∃ (q : Addr) (vm₁ : Vm) (B : Pt), s.WarmedH vm₁ ∧ Stand p l e R s m args below meth c B.U B.locs B.cells B.slots ∧ PostX ⟨T.setVm vm₁, locs, cells, slots⟩ argsL.toArray q B ∧
      Steps p.tables e below (T.setTop g) ((B.U.setTop { g with stack := rest }).pushFrame (.throwing q))) := by
  obtain ⟨mk, methM, cM, hnamed, hmethM, -, -, -, -, -, -, hsigM⟩ := Cond.codeWith_spec hcode
  have hstatic : methM.isStatic = true := Cond.static_spec hnamed hmethM hstat
  obtain ⟨kP, hkP, -⟩ := className_of_methodNamed hnamed
  have hinitP : kP.init = .initialized := Cond.initialized_spec (findClass_of_methodNamed hnamed) hkP hinit
  obtain ⟨vm₁, X₁, hstep₁⟩ := X.invokestatic hexec hown hlink hnamed hmethM hstatic hkP hinitP hy (g := g) hg (argsL := argsL) (rest := rest) (hlen _ hsigM) hstack hdg
  rcases hK m meth c ⟨T.setVm vm₁, locs, cells, slots⟩ { g with stack := rest } (.invokestatic index) mk argsL.toArray X₁ hg hsize hdg hW (X₁.named hnamed) (hpre vm₁ X₁.warmed) with ⟨v, B, X', hpost, hsteps⟩ | ⟨q, B, X', hpost, hsteps⟩
  · exact Or.inl ⟨v, vm₁, B, X₁.warmed, X', hpost, fun target h => hstep₁ _ fun acts => by rw [doInvoke_state]; exact hsteps.trans h⟩
  · exact Or.inr ⟨q, vm₁, B, X₁.warmed, X', hpost, hstep₁ _ fun acts => by rw [doInvoke_state]; exact hsteps⟩
theorem vx_callVW (X : Stand p l e R s m args below meth c T locs cells slots) (hexec : p.tables.exec = Jvm.exec) {own C : String} {index : Nat} {y : MethodName} {bytes : ByteArray} {maxL : Nat} {ret : Option FieldType} {hh : List (Nat × Nat × Nat × Nat)}
    (hown : s.vm.findClass own = some m.cls) (hlink : (Cond.methodLink own index y).before args s = true) (hinst : (Cond.instanceMethod y).before args s = true) (hsel : (Cond.selects C y y).before args s = true)
    (hcode : (Cond.codeWith y bytes maxL ret hh).before args s = true) (hy : y.cls ≠ "java/lang/invoke/MethodHandle" ∧ y.cls ≠ "java/lang/invoke/VarHandle")
    {W9 : Nat} {Pre : Pt → Array Value → Prop} {Post : Pt → Array Value → Option Value → Pt → Prop} (hK : Back l R p e below s args y 3 W9 Pre Post)
    {b : Addr} {cellB : Cell} (hcell : T.heap[b]? = some cellB) (hobj : cellB.vm.isStatics = false) (hcls : s.vm.findClass C = some cellB.cls)
    {g : JFrame} (hg : g.method = m) (hsize : g.locals.size = c.maxLocals) {argsL rest : List Value} (hlen : ∀ sig, parseMethodDescriptor y.desc = some sig → argsL.length = sig.parameters.length)
    (hstack : g.stack = argsL.reverse ++ .ref b :: rest) (hW : 2 * g.monitorRoom + (rest.map fun v => v.category).sum ≤ W9) (hdg : decode c.code g.pc = .ok (.invokevirtual index, 3))
    (hpre : ∀ vm₁, s.WarmedH vm₁ → Pre ⟨T.setVm vm₁, locs, cells, slots⟩ (Value.ref b :: argsL).toArray) :
    ∃ (v : Option Value) (vm₁ : Vm) (B : Pt), s.WarmedH vm₁ ∧ Stand p l e R s m args below meth c B.U B.locs B.cells B.slots ∧ Post ⟨T.setVm vm₁, locs, cells, slots⟩ (Value.ref b :: argsL).toArray v B ∧
      ∀ target, Steps p.tables e below (B.U.setTop { g with pc := g.pc + 3, stack := v.toList ++ rest }) target → Steps p.tables e below (T.setTop g) target := by
  obtain ⟨mk, methM, hnamed, hmethM, hstM, habM⟩ := Cond.instanceMethod_spec hinst
  obtain ⟨m8, methM', cM, hn8, hmethM', -, -, -, -, -, -, hsigM⟩ := Cond.codeWith_spec hcode
  cases Option.some.inj (hn8.symm.trans hnamed)
  cases hmethM.symm.trans hmethM'
  obtain ⟨c2, r2, m2, q1, q2, q3, q4, kP, hkP, hkPi⟩ := Cond.selects_spec hsel
  cases hcls.symm.trans q1
  cases (State.methodFound?_of_named hnamed hy).symm.trans q2
  cases hnamed.symm.trans q3
  have hselP : selectMethod e.platform s.vm cellB.cls mk = .method mk := by rw [Launch.admits_selectMethod X.admits]; exact q4
  obtain ⟨vm₁, X₁, hstep₁⟩ := X.invokevirtual hexec hown hlink hnamed hmethM hstM hkP hkPi hy (a := b) (cell := cellB) hcell
    (fun z h => by rw [h] at hobj; cases hobj) hselP hmethM habM hkP hkPi (g := g) hg (argsL := argsL) (rest := rest) (hlen _ hsigM) hstack hdg
  obtain ⟨v, B, X', hpost, hsteps⟩ := hK m meth c ⟨T.setVm vm₁, locs, cells, slots⟩ { g with stack := rest } (.invokevirtual index) mk (Value.ref b :: argsL).toArray X₁ hg hsize hdg hW (X₁.named hnamed) (hpre vm₁ X₁.warmed)
  exact ⟨v, vm₁, B, X₁.warmed, X', hpost, fun target h => hstep₁ _ fun acts => by rw [doInvoke_state]; exact hsteps.trans h⟩
abbrev vx_CVW (R : Room) (s : State) (args : Array Value) (own C : String) (index : Nat) (y : MethodName) (bytes : ByteArray) (maxL : Nat) (ret : Option FieldType) (hh : List (Nat × Nat × Nat × Nat)) (ws : List Cond) (rm : Room) (mc ms n : Nat) : Prop :=
  (rm.cells = mc ∧ rm.slots = ms ∧ rm.frames + 1 ≤ R.frames ∧ 8 + (maxL + 11) + rm.locals ≤ R.locals ∧ (∀ w ∈ ws, ∀ (a' : Array Value) (U : State), s.WarmedH U.vm → w.before a' U = true) ∧ Cond.codeWith y bytes maxL ret hh ∈ ws) ∧
  (Cond.codeWith y bytes maxL ret hh).before args s = true ∧ (Cond.initialized y.cls).before args s = true ∧ (y.cls ≠ "java/lang/invoke/MethodHandle" ∧ y.cls ≠ "java/lang/invoke/VarHandle") ∧
  (∀ sig, parseMethodDescriptor y.desc = some sig → n = sig.parameters.length) ∧ (Cond.methodLink own index y).before args s = true ∧ (Cond.instanceMethod y).before args s = true ∧ (Cond.selects C y y).before args s = true
theorem vx_cwVW {own C : String} {index maxL mc ms : Nat} {y : MethodName} {bytes : ByteArray} {ret : Option FieldType} {hh : List (Nat × Nat × Nat × Nat)} {Ts ws ws' : List Cond} {rm : Room} (n : Nat) (ht : ∀ w ∈ Ts, w.before args s = true) (hT : GoodIn Ts (wsV own index C y ws)) (hw : ws = Cond.codeWith y bytes maxL ret hh :: ws') (hrc : rm.cells = mc) (hrs : rm.slots = ms)
    (hd : y.cls = C ∧ y.cls ≠ "java/lang/invoke/MethodHandle" ∧ y.cls ≠ "java/lang/invoke/VarHandle" ∧ (parseMethodDescriptor y.desc).map (fun d => d.parameters.length) = some n) (hR : rm.frames + 1 ≤ R.frames ∧ 8 + (maxL + 11) + rm.locals ≤ R.locals) :
    vx_CVW R s args own C index y bytes maxL ret hh ws rm mc ms n := by
  obtain ⟨hC, hd⟩ := hd
  subst hC
  have ok : ∀ w ∈ wsV own index y.cls y ws, w.before args s = true := fun w h => ht w (hT w h).1
  have hG : GoodIn Ts ws := fun w h => hT w (by unfold wsV; exact List.mem_append_right _ h)
  have hc : Cond.codeWith y bytes maxL ret hh ∈ ws := by rw [hw]; exact List.mem_cons_self
  refine ⟨⟨hrc, hrs, hR.1, hR.2, pay_in ht hG, hc⟩, ht _ (hG _ hc).1, ok _ (by simp [wsV]), ⟨hd.1, hd.2.1⟩, fun sig h => ?_, ok _ (by simp [wsV]), ok _ (by simp [wsV]), ok _ (by simp [wsV])⟩
  have h2 := hd.2.2
  rw [h] at h2
  exact (Option.some.inj h2).symm
theorem vx_runVW {y : MethodName} {bytes cc : ByteArray} {maxL nL mc ms n index : Nat} {ret : Option FieldType} {hh : List (Nat × Nat × Nat × Nat)} {ws : List Cond} {rm : Room} {Pc : Array Value → State → Prop} {Qc : Array Value → State → Outcome → State → Prop} {free : Addr → Prop} {Ts : List Cond} {own C : String} {b : Addr} {As rest : List Value} {g : JFrame}
    (S : CallFix p m c cc nL s args Ts own) (hM : Met l y ws rm Pc Qc mc ms free) (cw : vx_CVW R s args own C index y bytes maxL ret hh ws rm mc ms n) (hp : PreV s H C b Pc As)
    (hg : g.method = m) (hn : As.length = n) (hsize : g.locals.size = nL) (hstack : g.stack = As.reverse ++ .ref b :: rest) (hW : 2 * g.monitorRoom + (rest.map fun v => v.category).sum ≤ 8) (hdg : decode cc g.pc = .ok (.invokevirtual index, 3)) (hf : cells + mc ≤ R.cells ∧ slots + ms ≤ R.slots) :
    va_Run p l e R s m args below meth c H locs cells slots mc ms g rest (Qc (Value.ref b :: As).toArray) free := by
  obtain ⟨⟨hrc, hrs, hfr, hlo, hws, hcw⟩, hcode, hini, hy, hlen, hl, hin, hse⟩ := cw
  have hK : Back l R p e below s args y 3 8 (PreOf R mc ms Pc) (PostOf Qc mc ms free) := va_backW (hh := hh) (bytes := bytes) (maxL := maxL) (ret := ret) hM hp.1 hrc hrs hfr hlo hws hcw (fun a' U hW => word_at hW (Or.inl (by first | rfl | simp [Cond.onTables, Cond.keeps, Cond.steady])) hini)
  obtain ⟨hx, hb, hml, ho, -⟩ := S
  obtain ⟨-, ⟨cellB, hcB, hoB, hclB⟩, hPc⟩ := hp
  intro T hT X
  obtain ⟨v, vm₁, ⟨U', l2, c2, s2⟩, hW₁, X', ⟨g', mk, t, L, e1, e2, hq, h1, hL, h2, h3⟩, st⟩ := vx_callVW X hx (C := C) (hh := hh) (bytes := bytes) (maxL := maxL) (ret := ret) ho hl hin hse hcode hy hK (by rw [hT]; exact hcB) hoB hclB hg (hsize.trans hml.symm) (argsL := As) (rest := rest) (fun sig h => hn.trans (hlen sig h)) hstack hW (by rw [hb]; exact hdg)
    (fun vm₁ hW₁ => ⟨hf.1, hf.2, hPc (T.setVm vm₁) hT hW₁⟩)
  dsimp only [Pt.U, Pt.locs, Pt.cells, Pt.slots] at X' e1 e2 h1 h2 h3 st
  subst h1; subst h2; subst h3
  exact ⟨v, (T.setVm vm₁).calling g' mk (Value.ref b :: As).toArray, t, U', L, hT, X', hL, e1, e2, hq, st⟩
section
variable {y : MethodName} {bytes cc : ByteArray} {maxL nL mc ms n index : Nat} {ret : Option FieldType} {ws : List Cond} {rm : Room} {Pc : Array Value → State → Prop} {Qc : Array Value → State → Outcome → State → Prop} {XC : String → State → State → Prop} {free : Addr → Prop} {Ts : List Cond} {own C : String} {b : Addr} {As rest : List Value} {g : JFrame}
theorem vx_runVX {hh : List (Nat × Nat × Nat × Nat)} (S : CallFix p m c cc nL s args Ts own) (hM : vx_Met l y ws rm Pc Qc XC mc ms free) (cw : vx_CVW R s args own C index y bytes maxL ret hh ws rm mc ms n) (hp : PreV s H C b Pc As)
    (hg : g.method = m) (hn : As.length = n) (hsize : g.locals.size = nL) (hstack : g.stack = As.reverse ++ .ref b :: rest) (hW : 2 * g.monitorRoom + (rest.map fun v => v.category).sum ≤ 8) (hdg : decode cc g.pc = .ok (.invokevirtual index, 3)) (hf : cells + mc ≤ R.cells ∧ slots + ms ≤ R.slots) :
    vx_Run p l e R s m args below meth c H locs cells slots mc ms g rest (Qc (Value.ref b :: As).toArray) XC free := by
  obtain ⟨⟨hrc, hrs, hfr, hlo, hws, hcw⟩, hcode, hini, hy, hlen, hl, hin, hse⟩ := cw
  have hK : vx_Back l R p e below s args y 3 8 (PreOf R mc ms Pc) (PostOf Qc mc ms free) (vx_Post XC mc ms free) := vx_backW (hh := hh) (bytes := bytes) (maxL := maxL) (ret := ret) hM hp.1 hrc hrs hfr hlo hws hcw (fun a' U hW => word_at hW (Or.inl (by first | rfl | simp [Cond.onTables, Cond.keeps, Cond.steady])) hini)
  obtain ⟨hx, hb, hml, ho, -⟩ := S
  obtain ⟨-, ⟨cellB, hcB, hoB, hclB⟩, hPc⟩ := hp
  intro T hT X
  rcases vx_callVX X hx (C := C) (hh := hh) (bytes := bytes) (maxL := maxL) (ret := ret) ho hl hin hse hcode hy hK (by rw [hT]; exact hcB) hoB hclB hg (hsize.trans hml.symm) (argsL := As) (rest := rest) (fun sig h => hn.trans (hlen sig h)) hstack hW (by rw [hb]; exact hdg)
    (fun vm₁ hW₁ => ⟨hf.1, hf.2, hPc (T.setVm vm₁) hT hW₁⟩) with ⟨v, vm₁, ⟨U', l2, c2, s2⟩, hW₁, X', ⟨g', mk, t, L, e1, e2, hq, h1, hL, h2, h3⟩, st⟩ | ⟨q, vm₁, ⟨U', l2, c2, s2⟩, hW₁, X', ⟨g', mk, t, L, E, ce, e1, e2, hq, hce, hcv, hcl, h1, hL, h2, h3⟩, st⟩
  · dsimp only [Pt.U, Pt.locs, Pt.cells, Pt.slots] at X' e1 e2 h1 h2 h3 st
    subst h1; subst h2; subst h3
    exact Or.inl ⟨v, (T.setVm vm₁).calling g' mk (Value.ref b :: As).toArray, t, U', L, hT, X', hL, e1, e2, hq, st⟩
  · dsimp only [Pt.U, Pt.locs, Pt.cells, Pt.slots] at X' e1 e2 h1 h2 h3 st hcl
    subst h1; subst h2; subst h3
    exact Or.inr ⟨q, (T.setVm vm₁).calling g' mk (Value.ref b :: As).toArray, t, U', L, E, ce, hT, X', hL, e1, e2, hq, hce, hcv, vx_cls hW₁ hcl, st⟩
theorem vx_runSX {hh : List (Nat × Nat × Nat × Nat)} (S : CallFix p m c cc nL s args Ts own) (hM : vx_Met l y ws rm Pc Qc XC mc ms free) (cw : vx_CSW R s args own index y bytes maxL ret hh ws rm mc ms n) (hp : PreS s H Pc As)
    (hg : g.method = m) (hn : As.length = n) (hsize : g.locals.size = nL) (hstack : g.stack = As.reverse ++ rest) (hW : 2 * g.monitorRoom + (rest.map fun v => v.category).sum ≤ 8) (hdg : decode cc g.pc = .ok (.invokestatic index, 3)) (hf : cells + mc ≤ R.cells ∧ slots + ms ≤ R.slots) :
    vx_Run p l e R s m args below meth c H locs cells slots mc ms g rest (Qc As.toArray) XC free := by
  obtain ⟨⟨hrc, hrs, hfr, hlo, hws, hcw⟩, hcode, hini, hy, hlen, hl, hstt⟩ := cw
  have hK : vx_Back l R p e below s args y 3 8 (PreOf R mc ms Pc) (PostOf Qc mc ms free) (vx_Post XC mc ms free) := vx_backW (hh := hh) (bytes := bytes) (maxL := maxL) (ret := ret) hM hp.1 hrc hrs hfr hlo hws hcw (fun a' U hW => word_at hW (Or.inl (by first | rfl | simp [Cond.onTables, Cond.keeps, Cond.steady])) hini)
  obtain ⟨hx, hb, hml, ho, -⟩ := S
  intro T hT X
  rcases vx_callSX X hx (hh := hh) (bytes := bytes) (maxL := maxL) (ret := ret) ho hl hstt hini hcode hy hK hg (hsize.trans hml.symm) (argsL := As) (rest := rest) (fun sig h => hn.trans (hlen sig h)) hstack hW (by rw [hb]; exact hdg)
    (fun vm₁ hW₁ => ⟨hf.1, hf.2, hp.2 (T.setVm vm₁) hT hW₁⟩) with ⟨v, vm₁, ⟨U', l2, c2, s2⟩, hW₁, X', ⟨g', mk, t, L, e1, e2, hq, h1, hL, h2, h3⟩, st⟩ | ⟨q, vm₁, ⟨U', l2, c2, s2⟩, hW₁, X', ⟨g', mk, t, L, E, ce, e1, e2, hq, hce, hcv, hcl, h1, hL, h2, h3⟩, st⟩
  · dsimp only [Pt.U, Pt.locs, Pt.cells, Pt.slots] at X' e1 e2 h1 h2 h3 st
    subst h1; subst h2; subst h3
    exact Or.inl ⟨v, (T.setVm vm₁).calling g' mk As.toArray, t, U', L, hT, X', hL, e1, e2, hq, st⟩
  · dsimp only [Pt.U, Pt.locs, Pt.cells, Pt.slots] at X' e1 e2 h1 h2 h3 st hcl
    subst h1; subst h2; subst h3
    exact Or.inr ⟨q, (T.setVm vm₁).calling g' mk As.toArray, t, U', L, E, ce, hT, X', hL, e1, e2, hq, hce, hcv, vx_cls hW₁ hcl, st⟩
end
end VXH
theorem vx_ofWH {l : Launch} {y : MethodName} {ws ws' : List Cond} {rm : Room} {Pc : Array Value → State → Prop} {Qc : Array Value → State → Outcome → State → Prop} {XC : String → State → State → Prop} {mc ms : Nat} {free : Addr → Prop} {cc : ByteArray} {maxL : Nat} {ret : Option FieldType} {hh : List (Nat × Nat × Nat × Nat)}
    (hy : plainName y.cls = true) (hw : ws = Cond.codeWith y cc maxL ret hh :: ws')
    (body : ∀ p e s m args below meth c s₁, BodyLoose p l y (headSpec ws rm) cc maxL ret e s m args below meth c s₁ → c.maxLocals = maxL → Pc args s →
      W p l e (headSpec ws rm).room s m args below meth c s.heap [] 0 0 (vx_MQ below Qc XC args s mc ms free) (entryFrame m args maxL)) : vx_Met l y ws rm Pc Qc XC mc ms free := by
  refine MetFree.of_bodyS (code := cc) (maxLocals := maxL) (ret := ret) hy ?_ ?_
  · intro args s m h hn
    obtain ⟨m9, meth, c, hn9, h1, h2, h3, h4, -, h5, h6, -⟩ := Cond.codeWith_spec (atoms_spec (ws := ws) h _ (by rw [hw]; exact List.mem_cons_self))
    cases hn.symm.trans hn9
    exact ⟨meth, c, h1, h2, h3, h4, h5, h6⟩
  · intro p e s m args below meth c s₁ B hml hP _
    have hh0 : s₁.heap = s.heap := by rw [B.state]; rfl
    obtain ⟨t, a1, o, b1, b2, b3⟩ := body p e s m args below meth c s₁ B hml hP s₁ hh0 (Stand.of_body B)
    exact ⟨t, o, a1, b1, b2, b3⟩
/-! ===== END ===== -/

/-! ===== BEGIN printed: names, fields, word lists, decode rows ===== -/
def RX0 : String := "Forwardroll$Amounts"
def TX0 : u_T := fun k => match k with
  | _ => ("Forwardroll$Amounts", "byMoney", "[J", true)
def tyX0 : Nat → FieldType := fun k => match k with
  | _ => .array .long
abbrev wsX00 : List Cond := u_ws RX0 TX0 1
theorem nmX0 : ∀ a, a < 1 → ∀ b, b < 1 → a ≠ b → (TX0 a).2.1 ≠ (TX0 b).2.1 := by decide +kernel
theorem tyX0_ok : ∀ k, k < 1 → parseFieldDescriptor (TX0 k).2.2.1 = some (tyX0 k) := by decide +kernel
abbrev cX0_init : ByteArray := prog_2_method_1_code
def yX0_init : MethodName := ⟨RX0, "<init>", "()V"⟩
abbrev cX0_add : ByteArray := prog_2_method_2_code
def yX0_add : MethodName := ⟨RX0, "add", "(IJ)V"⟩
abbrev cX0_addAll : ByteArray := prog_2_method_3_code
def yX0_addAll : MethodName := ⟨RX0, "addAll", "(LForwardroll$Amounts;)V"⟩
abbrev cX0_amountOf : ByteArray := prog_2_method_4_code
def yX0_amountOf : MethodName := ⟨RX0, "amountOf", "(I)J"⟩
def RX1 : String := "Forwardroll$Calendar"
def TX1 : u_T := fun k => match k with
  | 0 => ("Forwardroll$Calendar", "holidays", "[Z", true)
  | _ => ("Forwardroll$Calendar", "today", "I", false)
def tyX1 : Nat → FieldType := fun k => match k with
  | 0 => .array .boolean
  | _ => .int
abbrev wsX10 : List Cond := u_ws RX1 TX1 2
theorem nmX1 : ∀ a, a < 2 → ∀ b, b < 2 → a ≠ b → (TX1 a).2.1 ≠ (TX1 b).2.1 := by decide +kernel
theorem tyX1_ok : ∀ k, k < 2 → parseFieldDescriptor (TX1 k).2.2.1 = some (tyX1 k) := by decide +kernel
abbrev cX1_init : ByteArray := prog_3_method_1_code
def yX1_init : MethodName := ⟨RX1, "<init>", "()V"⟩
abbrev cX1_flipHoliday : ByteArray := prog_3_method_2_code
def yX1_flipHoliday : MethodName := ⟨RX1, "flipHoliday", "(I)Z"⟩
abbrev cX1_isBusinessDay : ByteArray := prog_3_method_3_code
def yX1_isBusinessDay : MethodName := ⟨RX1, "isBusinessDay", "(I)Z"⟩
abbrev cX1_nextBusinessDay : ByteArray := prog_3_method_4_code
def yX1_nextBusinessDay : MethodName := ⟨RX1, "nextBusinessDay", "()I"⟩
def RX2 : String := "Forwardroll$Currency"
def TX2 : u_T := fun k => match k with
  | 0 => ("Forwardroll$Currency", "number", "I", true)
  | 1 => ("Forwardroll$Currency", "spotRate", "I", false)
  | _ => ("Forwardroll$Currency", "points", "I", false)
def tyX2 : Nat → FieldType := fun k => match k with
  | 0 => .int
  | 1 => .int
  | _ => .int
abbrev wsX20 : List Cond := u_ws RX2 TX2 3
theorem nmX2 : ∀ a, a < 3 → ∀ b, b < 3 → a ≠ b → (TX2 a).2.1 ≠ (TX2 b).2.1 := by decide +kernel
theorem tyX2_ok : ∀ k, k < 3 → parseFieldDescriptor (TX2 k).2.2.1 = some (tyX2 k) := by decide +kernel
abbrev cX2_init : ByteArray := prog_4_method_1_code
def yX2_init : MethodName := ⟨RX2, "<init>", "(I)V"⟩
abbrev cX2_forwardRate : ByteArray := prog_4_method_2_code
def yX2_forwardRate : MethodName := ⟨RX2, "forwardRate", "(I)I"⟩
abbrev cX2_laterRate : ByteArray := prog_4_method_3_code
def yX2_laterRate : MethodName := ⟨RX2, "laterRate", "(II)I"⟩
def RX3 : String := "Forwardroll$Customer"
def TX3 : u_T := fun k => match k with
  | 0 => ("Forwardroll$Customer", "limit", "I", false)
  | 1 => ("Forwardroll$Customer", "netAmounts", "[LForwardroll$Amounts;", true)
  | _ => ("Forwardroll$Customer", "balances", "LForwardroll$Amounts;", true)
def tyX3 : Nat → FieldType := fun k => match k with
  | 0 => .int
  | 1 => .array (.object "Forwardroll$Amounts")
  | _ => .object "Forwardroll$Amounts"
abbrev wsX30 : List Cond := u_ws RX3 TX3 3
theorem nmX3 : ∀ a, a < 3 → ∀ b, b < 3 → a ≠ b → (TX3 a).2.1 ≠ (TX3 b).2.1 := by decide +kernel
theorem tyX3_ok : ∀ k, k < 3 → parseFieldDescriptor (TX3 k).2.2.1 = some (tyX3 k) := by decide +kernel
abbrev cX3_init : ByteArray := prog_5_method_1_code
def yX3_init : MethodName := ⟨RX3, "<init>", "()V"⟩
abbrev cX3_book : ByteArray := prog_5_method_2_code
def yX3_book : MethodName := ⟨RX3, "book", "(IIJ)V"⟩
abbrev cX3_netAmountsOf : ByteArray := prog_5_method_3_code
def yX3_netAmountsOf : MethodName := ⟨RX3, "netAmountsOf", "(I)LForwardroll$Amounts;"⟩
abbrev cX3_netAmount : ByteArray := prog_5_method_4_code
def yX3_netAmount : MethodName := ⟨RX3, "netAmount", "(II)J"⟩
abbrev cX3_settle : ByteArray := prog_5_method_5_code
def yX3_settle : MethodName := ⟨RX3, "settle", "(I)V"⟩
def RX4 : String := "Forwardroll$Deal"
def TX4 : u_T := fun k => match k with
  | 0 => ("Forwardroll$Deal", "customer", "LForwardroll$Customer;", true)
  | 1 => ("Forwardroll$Deal", "currency", "LForwardroll$Currency;", true)
  | 2 => ("Forwardroll$Deal", "buys", "Z", true)
  | 3 => ("Forwardroll$Deal", "amountLeft", "I", false)
  | 4 => ("Forwardroll$Deal", "agreedRate", "I", false)
  | 5 => ("Forwardroll$Deal", "firstDay", "I", false)
  | _ => ("Forwardroll$Deal", "lastDay", "I", false)
def tyX4 : Nat → FieldType := fun k => match k with
  | 0 => .object "Forwardroll$Customer"
  | 1 => .object "Forwardroll$Currency"
  | 2 => .boolean
  | 3 => .int
  | 4 => .int
  | 5 => .int
  | _ => .int
abbrev wsX40 : List Cond := u_ws RX4 TX4 7
theorem nmX4 : ∀ a, a < 7 → ∀ b, b < 7 → a ≠ b → (TX4 a).2.1 ≠ (TX4 b).2.1 := by decide +kernel
theorem tyX4_ok : ∀ k, k < 7 → parseFieldDescriptor (TX4 k).2.2.1 = some (tyX4 k) := by decide +kernel
abbrev cX4_init : ByteArray := prog_6_method_1_code
def yX4_init : MethodName := ⟨RX4, "<init>", "(LForwardroll$Customer;LForwardroll$Currency;ZIIII)V"⟩
abbrev cX4_marketRate : ByteArray := prog_6_method_2_code
def yX4_marketRate : MethodName := ⟨RX4, "marketRate", "(I)I"⟩
abbrev cX4_marketGain : ByteArray := prog_6_method_3_code
def yX4_marketGain : MethodName := ⟨RX4, "marketGain", "(I)J"⟩
abbrev cX4_shiftedLoss : ByteArray := prog_6_method_4_code
def yX4_shiftedLoss : MethodName := ⟨RX4, "shiftedLoss", "(II)J"⟩
abbrev cX4_drawingRate : ByteArray := prog_6_method_5_code
def yX4_drawingRate : MethodName := ⟨RX4, "drawingRate", "(I)I"⟩
abbrev cX4_moveWindow : ByteArray := prog_6_method_6_code
def yX4_moveWindow : MethodName := ⟨RX4, "moveWindow", "(I)V"⟩
abbrev cX4_gainAt : ByteArray := prog_6_method_7_code
def yX4_gainAt : MethodName := ⟨RX4, "gainAt", "(I)J"⟩
def RX5 : String := "Forwardroll"
def TX5 : u_T := fun k => match k with
  | 0 => ("Forwardroll", "calendar", "LForwardroll$Calendar;", true)
  | 1 => ("Forwardroll", "currencies", "[LForwardroll$Currency;", true)
  | 2 => ("Forwardroll", "customers", "[LForwardroll$Customer;", true)
  | 3 => ("Forwardroll", "deals", "[LForwardroll$Deal;", true)
  | _ => ("Forwardroll", "dealCount", "I", false)
def tyX5 : Nat → FieldType := fun k => match k with
  | 0 => .object "Forwardroll$Calendar"
  | 1 => .array (.object "Forwardroll$Currency")
  | 2 => .array (.object "Forwardroll$Customer")
  | 3 => .array (.object "Forwardroll$Deal")
  | _ => .int
abbrev wsX50 : List Cond := u_ws RX5 TX5 5
theorem nmX5 : ∀ a, a < 5 → ∀ b, b < 5 → a ≠ b → (TX5 a).2.1 ≠ (TX5 b).2.1 := by decide +kernel
theorem tyX5_ok : ∀ k, k < 5 → parseFieldDescriptor (TX5 k).2.2.1 = some (tyX5 k) := by decide +kernel
abbrev cX5_init : ByteArray := prog_1_method_1_code
def yX5_init : MethodName := ⟨RX5, "<init>", "()V"⟩
abbrev cX5_setRate : ByteArray := prog_1_method_2_code
def yX5_setRate : MethodName := ⟨RX5, "setRate", "(II)I"⟩
abbrev cX5_setPoints : ByteArray := prog_1_method_3_code
def yX5_setPoints : MethodName := ⟨RX5, "setPoints", "(II)I"⟩
abbrev cX5_toggleHoliday : ByteArray := prog_1_method_4_code
def yX5_toggleHoliday : MethodName := ⟨RX5, "toggleHoliday", "(I)Z"⟩
abbrev cX5_setLimit : ByteArray := prog_1_method_5_code
def yX5_setLimit : MethodName := ⟨RX5, "setLimit", "(II)I"⟩
abbrev cX5_forward : ByteArray := prog_1_method_6_code
def yX5_forward : MethodName := ⟨RX5, "forward", "(II)I"⟩
abbrev cX5_deal : ByteArray := prog_1_method_7_code
def yX5_deal : MethodName := ⟨RX5, "deal", "(IIZIII)I"⟩
abbrev cX5_draw : ByteArray := prog_1_method_8_code
def yX5_draw : MethodName := ⟨RX5, "draw", "(II)I"⟩
abbrev cX5_roll : ByteArray := prog_1_method_9_code
def yX5_roll : MethodName := ⟨RX5, "roll", "(IIZ)I"⟩
abbrev cX5_closeOut : ByteArray := prog_1_method_10_code
def yX5_closeOut : MethodName := ⟨RX5, "closeOut", "(I)J"⟩
abbrev cX5_left : ByteArray := prog_1_method_11_code
def yX5_left : MethodName := ⟨RX5, "left", "(I)I"⟩
abbrev cX5_rate : ByteArray := prog_1_method_12_code
def yX5_rate : MethodName := ⟨RX5, "rate", "(I)I"⟩
abbrev cX5_window : ByteArray := prog_1_method_13_code
def yX5_window : MethodName := ⟨RX5, "window", "(I)I"⟩
abbrev cX5_gain : ByteArray := prog_1_method_14_code
def yX5_gain : MethodName := ⟨RX5, "gain", "(I)J"⟩
abbrev cX5_exposure : ByteArray := prog_1_method_15_code
def yX5_exposure : MethodName := ⟨RX5, "exposure", "(I)J"⟩
abbrev cX5_settlementDay : ByteArray := prog_1_method_16_code
def yX5_settlementDay : MethodName := ⟨RX5, "settlementDay", "()I"⟩
abbrev cX5_due : ByteArray := prog_1_method_17_code
def yX5_due : MethodName := ⟨RX5, "due", "(III)J"⟩
abbrev cX5_balance : ByteArray := prog_1_method_18_code
def yX5_balance : MethodName := ⟨RX5, "balance", "(II)J"⟩
abbrev cX5_pass : ByteArray := prog_1_method_19_code
def yX5_pass : MethodName := ⟨RX5, "pass", "(I)I"⟩
abbrev cX5_today : ByteArray := prog_1_method_20_code
def yX5_today : MethodName := ⟨RX5, "today", "()I"⟩
abbrev cX5_currencyNumbered : ByteArray := prog_1_method_21_code
def yX5_currencyNumbered : MethodName := ⟨RX5, "currencyNumbered", "(I)LForwardroll$Currency;"⟩
abbrev cX5_customerNumbered : ByteArray := prog_1_method_22_code
def yX5_customerNumbered : MethodName := ⟨RX5, "customerNumbered", "(I)LForwardroll$Customer;"⟩
abbrev cX5_dealNumbered : ByteArray := prog_1_method_23_code
def yX5_dealNumbered : MethodName := ⟨RX5, "dealNumbered", "(I)LForwardroll$Deal;"⟩
abbrev cX5_requireRange : ByteArray := prog_1_method_24_code
def yX5_requireRange : MethodName := ⟨RX5, "requireRange", "(III)V"⟩
abbrev cX5_requireLeft : ByteArray := prog_1_method_25_code
def yX5_requireLeft : MethodName := ⟨RX5, "requireLeft", "(LForwardroll$Deal;)V"⟩
abbrev cX5_isIndex : ByteArray := prog_1_method_26_code
def yX5_isIndex : MethodName := ⟨RX5, "isIndex", "(II)Z"⟩
abbrev cX5_endDealsOfToday : ByteArray := prog_1_method_27_code
def yX5_endDealsOfToday : MethodName := ⟨RX5, "endDealsOfToday", "()I"⟩
abbrev cX5_endDeal : ByteArray := prog_1_method_28_code
def yX5_endDeal : MethodName := ⟨RX5, "endDeal", "(LForwardroll$Deal;)J"⟩
abbrev cX5_bookGain : ByteArray := prog_1_method_29_code
def yX5_bookGain : MethodName := ⟨RX5, "bookGain", "(LForwardroll$Deal;)J"⟩
abbrev cX5_settleAll : ByteArray := prog_1_method_30_code
def yX5_settleAll : MethodName := ⟨RX5, "settleAll", "(I)V"⟩
abbrev cX5_exposureWith : ByteArray := prog_1_method_31_code
def yX5_exposureWith : MethodName := ⟨RX5, "exposureWith", "(LForwardroll$Customer;LForwardroll$Deal;)J"⟩
abbrev cX5_lossOfAll : ByteArray := prog_1_method_32_code
def yX5_lossOfAll : MethodName := ⟨RX5, "lossOfAll", "(LForwardroll$Customer;I)J"⟩
abbrev cX5_worseLoss : ByteArray := prog_1_method_33_code
def yX5_worseLoss : MethodName := ⟨RX5, "worseLoss", "(JJ)J"⟩
abbrev cX5_homeAmount : ByteArray := prog_1_method_34_code
def yX5_homeAmount : MethodName := ⟨RX5, "homeAmount", "(II)J"⟩
def RX6 : String := "ForwardrollModel"
def TX6 : u_T := fun k => match k with
  | 0 => ("ForwardrollModel", "thrown", "I", false)
  | 1 => ("ForwardrollModel", "today", "I", false)
  | 2 => ("ForwardrollModel", "spot", "[I", true)
  | 3 => ("ForwardrollModel", "points", "[I", true)
  | 4 => ("ForwardrollModel", "limit", "[J", true)
  | 5 => ("ForwardrollModel", "isHoliday", "[Z", true)
  | 6 => ("ForwardrollModel", "deals", "I", false)
  | 7 => ("ForwardrollModel", "customer", "[I", true)
  | 8 => ("ForwardrollModel", "currency", "[I", true)
  | 9 => ("ForwardrollModel", "buys", "[Z", true)
  | 10 => ("ForwardrollModel", "left", "[I", true)
  | 11 => ("ForwardrollModel", "first", "[I", true)
  | 12 => ("ForwardrollModel", "last", "[I", true)
  | 13 => ("ForwardrollModel", "rate", "[I", true)
  | 14 => ("ForwardrollModel", "due", "[J", true)
  | _ => ("ForwardrollModel", "balance", "[J", true)
def tyX6 : Nat → FieldType := fun k => match k with
  | 0 => .int
  | 1 => .int
  | 2 => .array .int
  | 3 => .array .int
  | 4 => .array .long
  | 5 => .array .boolean
  | 6 => .int
  | 7 => .array .int
  | 8 => .array .int
  | 9 => .array .boolean
  | 10 => .array .int
  | 11 => .array .int
  | 12 => .array .int
  | 13 => .array .int
  | 14 => .array .long
  | _ => .array .long
abbrev wsX60 : List Cond := u_ws RX6 TX6 16
theorem nmX6 : ∀ a, a < 16 → ∀ b, b < 16 → a ≠ b → (TX6 a).2.1 ≠ (TX6 b).2.1 := by decide +kernel
theorem tyX6_ok : ∀ k, k < 16 → parseFieldDescriptor (TX6 k).2.2.1 = some (tyX6 k) := by decide +kernel
abbrev cX6_init : ByteArray := prog_8_method_1_code
def yX6_init : MethodName := ⟨RX6, "<init>", "()V"⟩
abbrev cX6_thrown : ByteArray := prog_8_method_2_code
def yX6_thrown : MethodName := ⟨RX6, "thrown", "()I"⟩
abbrev cX6_in : ByteArray := prog_8_method_3_code
def yX6_in : MethodName := ⟨RX6, "in", "(III)Z"⟩
abbrev cX6_isCustomer : ByteArray := prog_8_method_4_code
def yX6_isCustomer : MethodName := ⟨RX6, "isCustomer", "(I)Z"⟩
abbrev cX6_isCurrency : ByteArray := prog_8_method_5_code
def yX6_isCurrency : MethodName := ⟨RX6, "isCurrency", "(I)Z"⟩
abbrev cX6_isDeal : ByteArray := prog_8_method_6_code
def yX6_isDeal : MethodName := ⟨RX6, "isDeal", "(I)Z"⟩
abbrev cX6_atLeastOne : ByteArray := prog_8_method_7_code
def yX6_atLeastOne : MethodName := ⟨RX6, "atLeastOne", "(I)I"⟩
abbrev cX6_forwardFor : ByteArray := prog_8_method_8_code
def yX6_forwardFor : MethodName := ⟨RX6, "forwardFor", "(II)I"⟩
abbrev cX6_home : ByteArray := prog_8_method_9_code
def yX6_home : MethodName := ⟨RX6, "home", "(II)J"⟩
abbrev cX6_setRate : ByteArray := prog_8_method_10_code
def yX6_setRate : MethodName := ⟨RX6, "setRate", "(II)I"⟩
abbrev cX6_setPoints : ByteArray := prog_8_method_11_code
def yX6_setPoints : MethodName := ⟨RX6, "setPoints", "(II)I"⟩
abbrev cX6_toggleHoliday : ByteArray := prog_8_method_12_code
def yX6_toggleHoliday : MethodName := ⟨RX6, "toggleHoliday", "(I)Z"⟩
abbrev cX6_setLimit : ByteArray := prog_8_method_13_code
def yX6_setLimit : MethodName := ⟨RX6, "setLimit", "(II)I"⟩
abbrev cX6_forward : ByteArray := prog_8_method_14_code
def yX6_forward : MethodName := ⟨RX6, "forward", "(II)I"⟩
abbrev cX6_gainOf : ByteArray := prog_8_method_15_code
def yX6_gainOf : MethodName := ⟨RX6, "gainOf", "(III)J"⟩
abbrev cX6_gainNow : ByteArray := prog_8_method_16_code
def yX6_gainNow : MethodName := ⟨RX6, "gainNow", "(I)J"⟩
abbrev cX6_valueAt : ByteArray := prog_8_method_17_code
def yX6_valueAt : MethodName := ⟨RX6, "valueAt", "(II)J"⟩
abbrev cX6_exposureOf : ByteArray := prog_8_method_18_code
def yX6_exposureOf : MethodName := ⟨RX6, "exposureOf", "(I)J"⟩
abbrev cX6_isBusiness : ByteArray := prog_8_method_19_code
def yX6_isBusiness : MethodName := ⟨RX6, "isBusiness", "(I)Z"⟩
abbrev cX6_settles : ByteArray := prog_8_method_20_code
def yX6_settles : MethodName := ⟨RX6, "settles", "()I"⟩
abbrev cX6_owes : ByteArray := prog_8_method_21_code
def yX6_owes : MethodName := ⟨RX6, "owes", "(IIJ)V"⟩
abbrev cX6_deal : ByteArray := prog_8_method_22_code
def yX6_deal : MethodName := ⟨RX6, "deal", "(IIZIII)I"⟩
abbrev cX6_draw : ByteArray := prog_8_method_23_code
def yX6_draw : MethodName := ⟨RX6, "draw", "(II)I"⟩
abbrev cX6_roll : ByteArray := prog_8_method_24_code
def yX6_roll : MethodName := ⟨RX6, "roll", "(IIZ)I"⟩
abbrev cX6_closes : ByteArray := prog_8_method_25_code
def yX6_closes : MethodName := ⟨RX6, "closes", "(I)J"⟩
abbrev cX6_closeOut : ByteArray := prog_8_method_26_code
def yX6_closeOut : MethodName := ⟨RX6, "closeOut", "(I)J"⟩
abbrev cX6_asks : ByteArray := prog_8_method_27_code
def yX6_asks : MethodName := ⟨RX6, "asks", "(I)Z"⟩
abbrev cX6_left : ByteArray := prog_8_method_28_code
def yX6_left : MethodName := ⟨RX6, "left", "(I)I"⟩
abbrev cX6_rate : ByteArray := prog_8_method_29_code
def yX6_rate : MethodName := ⟨RX6, "rate", "(I)I"⟩
abbrev cX6_window : ByteArray := prog_8_method_30_code
def yX6_window : MethodName := ⟨RX6, "window", "(I)I"⟩
abbrev cX6_gain : ByteArray := prog_8_method_31_code
def yX6_gain : MethodName := ⟨RX6, "gain", "(I)J"⟩
abbrev cX6_exposure : ByteArray := prog_8_method_32_code
def yX6_exposure : MethodName := ⟨RX6, "exposure", "(I)J"⟩
abbrev cX6_settlementDay : ByteArray := prog_8_method_33_code
def yX6_settlementDay : MethodName := ⟨RX6, "settlementDay", "()I"⟩
abbrev cX6_due : ByteArray := prog_8_method_34_code
def yX6_due : MethodName := ⟨RX6, "due", "(III)J"⟩
abbrev cX6_balance : ByteArray := prog_8_method_35_code
def yX6_balance : MethodName := ⟨RX6, "balance", "(II)J"⟩
abbrev cX6_passes : ByteArray := prog_8_method_36_code
def yX6_passes : MethodName := ⟨RX6, "passes", "()I"⟩
abbrev cX6_pass : ByteArray := prog_8_method_37_code
def yX6_pass : MethodName := ⟨RX6, "pass", "(I)I"⟩
abbrev cX6_today : ByteArray := prog_8_method_38_code
def yX6_today : MethodName := ⟨RX6, "today", "()I"⟩
def RJ9 : String := "java/lang/Math"
def TJ9 : u_T := fun k => match k with
  | _ => ("", "", "", false)
def tyJ9 : Nat → FieldType := fun k => match k with
  | _ => .int
abbrev wsJ90 : List Cond := u_ws RJ9 TJ9 0
theorem nmJ9 : ∀ a, a < 0 → ∀ b, b < 0 → a ≠ b → (TJ9 a).2.1 ≠ (TJ9 b).2.1 := by decide +kernel
theorem tyJ9_ok : ∀ k, k < 0 → parseFieldDescriptor (TJ9 k).2.2.1 = some (tyJ9 k) := by decide +kernel
abbrev cJ9_max_7cf53 : ByteArray := prog_13_method_65_code
def yJ9_max_7cf53 : MethodName := ⟨RJ9, "max", "(II)I"⟩
abbrev cJ9_max_f86c9 : ByteArray := prog_13_method_66_code
def yJ9_max_f86c9 : MethodName := ⟨RJ9, "max", "(JJ)J"⟩
def RJ0 : String := "java/lang/String"
def TJ0 : u_T := fun k => match k with
  | _ => ("", "", "", false)
def tyJ0 : Nat → FieldType := fun k => match k with
  | _ => .int
abbrev wsJ00 : List Cond := u_ws RJ0 TJ0 0
theorem nmJ0 : ∀ a, a < 0 → ∀ b, b < 0 → a ≠ b → (TJ0 a).2.1 ≠ (TJ0 b).2.1 := by decide +kernel
theorem tyJ0_ok : ∀ k, k < 0 → parseFieldDescriptor (TJ0 k).2.2.1 = some (tyJ0 k) := by decide +kernel
def RL : String := "ForwardrollLaw"
abbrev cL_setRate : ByteArray := method_3_code
def yL_setRate : MethodName := ⟨RL, "setRate", "(LForwardroll;II[J)I"⟩
abbrev cL_setPoints : ByteArray := method_4_code
def yL_setPoints : MethodName := ⟨RL, "setPoints", "(LForwardroll;II[J)I"⟩
abbrev cL_toggleHoliday : ByteArray := method_5_code
def yL_toggleHoliday : MethodName := ⟨RL, "toggleHoliday", "(LForwardroll;I[J)I"⟩
abbrev cL_setLimit : ByteArray := method_6_code
def yL_setLimit : MethodName := ⟨RL, "setLimit", "(LForwardroll;II[J)I"⟩
abbrev cL_forward : ByteArray := method_7_code
def yL_forward : MethodName := ⟨RL, "forward", "(LForwardroll;II[J)I"⟩
abbrev cL_deal : ByteArray := method_8_code
def yL_deal : MethodName := ⟨RL, "deal", "(LForwardroll;IIZIII[J)I"⟩
abbrev cL_draw : ByteArray := method_9_code
def yL_draw : MethodName := ⟨RL, "draw", "(LForwardroll;II[J)I"⟩
abbrev cL_roll : ByteArray := method_10_code
def yL_roll : MethodName := ⟨RL, "roll", "(LForwardroll;IIZ[J)I"⟩
abbrev cL_closeOut : ByteArray := method_11_code
def yL_closeOut : MethodName := ⟨RL, "closeOut", "(LForwardroll;I[J)I"⟩
abbrev cL_left : ByteArray := method_12_code
def yL_left : MethodName := ⟨RL, "left", "(LForwardroll;I[J)I"⟩
abbrev cL_rate : ByteArray := method_13_code
def yL_rate : MethodName := ⟨RL, "rate", "(LForwardroll;I[J)I"⟩
abbrev cL_window : ByteArray := method_14_code
def yL_window : MethodName := ⟨RL, "window", "(LForwardroll;I[J)I"⟩
abbrev cL_gain : ByteArray := method_15_code
def yL_gain : MethodName := ⟨RL, "gain", "(LForwardroll;I[J)I"⟩
abbrev cL_exposure : ByteArray := method_16_code
def yL_exposure : MethodName := ⟨RL, "exposure", "(LForwardroll;I[J)I"⟩
abbrev cL_due : ByteArray := method_17_code
def yL_due : MethodName := ⟨RL, "due", "(LForwardroll;III[J)I"⟩
abbrev cL_balance : ByteArray := method_18_code
def yL_balance : MethodName := ⟨RL, "balance", "(LForwardroll;II[J)I"⟩
abbrev cL_pass : ByteArray := method_19_code
def yL_pass : MethodName := ⟨RL, "pass", "(LForwardroll;I[J)I"⟩
abbrev cL_law : ByteArray := code
def yL_law : MethodName := ⟨RL, "law", "([I)Z"⟩
def wsX0_init : List Cond := .code yX0_init cX0_init 1 none :: ([.methodLink RX0 3 objectInit, .instanceMethod objectInit, .code objectInit ⟨#[0xb1]⟩ 1 none, .arrayClass .long, .fieldLink RX0 9 "Forwardroll$Amounts" "byMoney" "[J"] ++ wsX00)
def wsX5_isIndex : List Cond := .code yX5_isIndex cX5_isIndex 2 (some .boolean) :: ([])
def wsX0_add : List Cond := .code yX0_add cX0_add 4 none :: ([.fieldLink RX0 9 "Forwardroll$Amounts" "byMoney" "[J", .static yX5_isIndex, .initialized RX5, .code yX5_isIndex cX5_isIndex 2 (some .boolean)] ++ wsX00)
def wsX0_amountOf : List Cond := .code yX0_amountOf cX0_amountOf 2 (some .long) :: ([.fieldLink RX0 9 "Forwardroll$Amounts" "byMoney" "[J", .static yX5_isIndex, .initialized RX5, .code yX5_isIndex cX5_isIndex 2 (some .boolean)] ++ wsX00)
def wsX0_addAll : List Cond := .code yX0_addAll cX0_addAll 3 none :: ([.methodLink RX0 19 yX0_amountOf, .instanceMethod yX0_amountOf, .selects RX0 yX0_amountOf yX0_amountOf, .initialized RX0, .code yX0_amountOf cX0_amountOf 2 (some .long), .fieldLink RX0 9 "Forwardroll$Amounts" "byMoney" "[J", .static yX5_isIndex, .initialized RX5, .code yX5_isIndex cX5_isIndex 2 (some .boolean), .methodLink RX0 23 yX0_add, .instanceMethod yX0_add, .selects RX0 yX0_add yX0_add, .code yX0_add cX0_add 4 none] ++ wsX00)
def wsX1_init : List Cond := .code yX1_init cX1_init 1 none :: ([.methodLink RX1 3 objectInit, .instanceMethod objectInit, .code objectInit ⟨#[0xb1]⟩ 1 none, .arrayClass .boolean, .fieldLink RX1 9 "Forwardroll$Calendar" "holidays" "[Z"] ++ wsX10)
def wsX1_flipHoliday : List Cond := .code yX1_flipHoliday cX1_flipHoliday 2 (some .boolean) :: ([.fieldLink RX1 9 "Forwardroll$Calendar" "holidays" "[Z", .static yX5_isIndex, .initialized RX5, .code yX5_isIndex cX5_isIndex 2 (some .boolean)] ++ wsX10)
def wsX1_isBusinessDay : List Cond := .code yX1_isBusinessDay cX1_isBusinessDay 3 (some .boolean) :: ([.fieldLink RX1 9 "Forwardroll$Calendar" "holidays" "[Z", .static yX5_isIndex, .initialized RX5, .code yX5_isIndex cX5_isIndex 2 (some .boolean)] ++ wsX10)
def wsX1_nextBusinessDay : List Cond := .code yX1_nextBusinessDay cX1_nextBusinessDay 2 (some .int) :: ([.fieldLink RX1 19 "Forwardroll$Calendar" "today" "I", .methodLink RX1 23 yX1_isBusinessDay, .instanceMethod yX1_isBusinessDay, .selects RX1 yX1_isBusinessDay yX1_isBusinessDay, .initialized RX1, .code yX1_isBusinessDay cX1_isBusinessDay 3 (some .boolean), .fieldLink RX1 9 "Forwardroll$Calendar" "holidays" "[Z", .static yX5_isIndex, .initialized RX5, .code yX5_isIndex cX5_isIndex 2 (some .boolean)] ++ wsX10)
def wsX2_init : List Cond := .code yX2_init cX2_init 2 none :: ([.methodLink RX2 3 objectInit, .instanceMethod objectInit, .code objectInit ⟨#[0xb1]⟩ 1 none, .fieldLink RX2 9 "Forwardroll$Currency" "spotRate" "I", .fieldLink RX2 15 "Forwardroll$Currency" "number" "I"] ++ wsX20)
def wsX2_laterRate : List Cond := .code yX2_laterRate cX2_laterRate 3 (some .int) :: ([.fieldLink RX2 22 "Forwardroll$Currency" "points" "I", .methodLink RX2 25 Lib.Math.max.name, .static Lib.Math.max.name, .initialized "java/lang/Math", .code Lib.Math.max.name Lib.Math.max.code 2 (some .int)] ++ wsX20)
def wsX2_forwardRate : List Cond := .code yX2_forwardRate cX2_forwardRate 2 (some .int) :: ([.fieldLink RX2 9 "Forwardroll$Currency" "spotRate" "I", .methodLink RX2 18 yX2_laterRate, .instanceMethod yX2_laterRate, .selects RX2 yX2_laterRate yX2_laterRate, .initialized RX2, .code yX2_laterRate cX2_laterRate 3 (some .int), .fieldLink RX2 22 "Forwardroll$Currency" "points" "I", .methodLink RX2 25 Lib.Math.max.name, .static Lib.Math.max.name, .initialized "java/lang/Math", .code Lib.Math.max.name Lib.Math.max.code 2 (some .int)] ++ wsX20)
def wsX3_init : List Cond := .code yX3_init cX3_init 1 none :: ([.methodLink RX3 3 objectInit, .instanceMethod objectInit, .code objectInit ⟨#[0xb1]⟩ 1 none, .constant RX3 9 (1000000), .fieldLink RX3 10 "Forwardroll$Customer" "limit" "I", .classLink RX3 16 RX0, .fieldLink RX3 18 "Forwardroll$Customer" "netAmounts" "[LForwardroll$Amounts;", .instantiable RX0 1, .initialized RX0, .fieldLink RX3 23 "Forwardroll$Customer" "balances" "LForwardroll$Amounts;", .instanceMethod yX0_init, .code yX0_init cX0_init 1 none, .methodLink RX0 3 objectInit, .arrayClass .long, .fieldLink RX0 9 "Forwardroll$Amounts" "byMoney" "[J"] ++ wsX30 ++ wsX00)
def wsX3_book : List Cond := .code yX3_book cX3_book 6 none :: ([.fieldLink RX3 18 "Forwardroll$Customer" "netAmounts" "[LForwardroll$Amounts;", .classLink RX3 16 RX0, .instantiable RX0 1, .initialized RX0, .static yX5_isIndex, .initialized RX5, .code yX5_isIndex cX5_isIndex 2 (some .boolean), .instanceMethod yX0_init, .code yX0_init cX0_init 1 none, .methodLink RX0 3 objectInit, .instanceMethod objectInit, .code objectInit ⟨#[0xb1]⟩ 1 none, .arrayClass .long, .fieldLink RX0 9 "Forwardroll$Amounts" "byMoney" "[J", .methodLink RX3 31 yX0_add, .instanceMethod yX0_add, .selects RX0 yX0_add yX0_add, .code yX0_add cX0_add 4 none] ++ wsX30 ++ wsX00)
def wsX3_netAmountsOf : List Cond := .code yX3_netAmountsOf cX3_netAmountsOf 2 (some (.object "Forwardroll$Amounts")) :: ([.fieldLink RX3 18 "Forwardroll$Customer" "netAmounts" "[LForwardroll$Amounts;", .static yX5_isIndex, .initialized RX5, .code yX5_isIndex cX5_isIndex 2 (some .boolean)] ++ wsX30)
def wsX3_netAmount : List Cond := .code yX3_netAmount cX3_netAmount 4 (some .long) :: ([.methodLink RX3 35 yX3_netAmountsOf, .instanceMethod yX3_netAmountsOf, .selects RX3 yX3_netAmountsOf yX3_netAmountsOf, .initialized RX3, .code yX3_netAmountsOf cX3_netAmountsOf 2 (some (.object "Forwardroll$Amounts")), .fieldLink RX3 18 "Forwardroll$Customer" "netAmounts" "[LForwardroll$Amounts;", .static yX5_isIndex, .initialized RX5, .code yX5_isIndex cX5_isIndex 2 (some .boolean), .methodLink RX3 39 yX0_amountOf, .instanceMethod yX0_amountOf, .selects RX0 yX0_amountOf yX0_amountOf, .initialized RX0, .code yX0_amountOf cX0_amountOf 2 (some .long), .fieldLink RX0 9 "Forwardroll$Amounts" "byMoney" "[J"] ++ wsX30 ++ wsX00)
def wsX3_settle : List Cond := .code yX3_settle cX3_settle 3 none :: ([.fieldLink RX3 23 "Forwardroll$Customer" "balances" "LForwardroll$Amounts;", .methodLink RX3 35 yX3_netAmountsOf, .instanceMethod yX3_netAmountsOf, .selects RX3 yX3_netAmountsOf yX3_netAmountsOf, .initialized RX3, .code yX3_netAmountsOf cX3_netAmountsOf 2 (some (.object "Forwardroll$Amounts")), .fieldLink RX3 18 "Forwardroll$Customer" "netAmounts" "[LForwardroll$Amounts;", .static yX5_isIndex, .initialized RX5, .code yX5_isIndex cX5_isIndex 2 (some .boolean), .methodLink RX3 43 yX0_addAll, .instanceMethod yX0_addAll, .selects RX0 yX0_addAll yX0_addAll, .initialized RX0, .code yX0_addAll cX0_addAll 3 none, .methodLink RX0 19 yX0_amountOf, .instanceMethod yX0_amountOf, .selects RX0 yX0_amountOf yX0_amountOf, .code yX0_amountOf cX0_amountOf 2 (some .long), .fieldLink RX0 9 "Forwardroll$Amounts" "byMoney" "[J", .methodLink RX0 23 yX0_add, .instanceMethod yX0_add, .selects RX0 yX0_add yX0_add, .code yX0_add cX0_add 4 none] ++ wsX30 ++ wsX00)
def wsX4_init : List Cond := .code yX4_init cX4_init 8 none :: ([.methodLink RX4 3 objectInit, .instanceMethod objectInit, .code objectInit ⟨#[0xb1]⟩ 1 none, .fieldLink RX4 9 "Forwardroll$Deal" "customer" "LForwardroll$Customer;", .fieldLink RX4 15 "Forwardroll$Deal" "currency" "LForwardroll$Currency;", .fieldLink RX4 19 "Forwardroll$Deal" "buys" "Z", .fieldLink RX4 23 "Forwardroll$Deal" "amountLeft" "I", .fieldLink RX4 27 "Forwardroll$Deal" "agreedRate" "I", .fieldLink RX4 30 "Forwardroll$Deal" "firstDay" "I", .fieldLink RX4 33 "Forwardroll$Deal" "lastDay" "I"] ++ wsX40)
def wsX4_marketRate : List Cond := .code yX4_marketRate cX4_marketRate 2 (some .int) :: ([.fieldLink RX4 15 "Forwardroll$Deal" "currency" "LForwardroll$Currency;", .fieldLink RX4 33 "Forwardroll$Deal" "lastDay" "I", .methodLink RX4 36 yX2_forwardRate, .instanceMethod yX2_forwardRate, .selects RX2 yX2_forwardRate yX2_forwardRate, .initialized RX2, .code yX2_forwardRate cX2_forwardRate 2 (some .int), .fieldLink RX2 9 "Forwardroll$Currency" "spotRate" "I", .methodLink RX2 18 yX2_laterRate, .instanceMethod yX2_laterRate, .selects RX2 yX2_laterRate yX2_laterRate, .code yX2_laterRate cX2_laterRate 3 (some .int), .fieldLink RX2 22 "Forwardroll$Currency" "points" "I", .methodLink RX2 25 Lib.Math.max.name, .static Lib.Math.max.name, .initialized "java/lang/Math", .code Lib.Math.max.name Lib.Math.max.code 2 (some .int)] ++ wsX40 ++ wsX20)
def wsX5_homeAmount : List Cond := .code yX5_homeAmount cX5_homeAmount 2 (some .long) :: ([.constantLong RX5 227 (10000)])
def wsX4_gainAt : List Cond := .code yX4_gainAt cX4_gainAt 4 (some .long) :: ([.fieldLink RX4 23 "Forwardroll$Deal" "amountLeft" "I", .fieldLink RX4 27 "Forwardroll$Deal" "agreedRate" "I", .fieldLink RX4 19 "Forwardroll$Deal" "buys" "Z", .static yX5_homeAmount, .initialized RX5, .code yX5_homeAmount cX5_homeAmount 2 (some .long), .constantLong RX5 227 (10000)] ++ wsX40)
def wsX4_marketGain_r1 : List Cond := [Cond.methodLink RX4 42 yX4_marketRate, Cond.instanceMethod yX4_marketRate, Cond.selects RX4 yX4_marketRate yX4_marketRate, Cond.initialized RX4, Cond.code yX4_marketRate cX4_marketRate 2 (some .int), Cond.fieldLink RX4 15 "Forwardroll$Deal" "currency" "LForwardroll$Currency;", Cond.fieldLink RX4 33 "Forwardroll$Deal" "lastDay" "I", Cond.methodLink RX4 36 yX2_forwardRate, Cond.instanceMethod yX2_forwardRate, Cond.selects RX2 yX2_forwardRate yX2_forwardRate, Cond.initialized RX2, Cond.code yX2_forwardRate cX2_forwardRate 2 (some .int), Cond.fieldLink RX2 9 "Forwardroll$Currency" "spotRate" "I", Cond.methodLink RX2 18 yX2_laterRate, Cond.instanceMethod yX2_laterRate, Cond.selects RX2 yX2_laterRate yX2_laterRate, Cond.code yX2_laterRate cX2_laterRate 3 (some .int), Cond.fieldLink RX2 22 "Forwardroll$Currency" "points" "I", Cond.methodLink RX2 25 Lib.Math.max.name, Cond.static Lib.Math.max.name, Cond.initialized "java/lang/Math", Cond.code Lib.Math.max.name Lib.Math.max.code 2 (some .int), Cond.methodLink RX4 45 yX4_gainAt, Cond.instanceMethod yX4_gainAt]
def wsX4_marketGain_r2 : List Cond := [Cond.selects RX4 yX4_gainAt yX4_gainAt, Cond.code yX4_gainAt cX4_gainAt 4 (some .long), Cond.fieldLink RX4 23 "Forwardroll$Deal" "amountLeft" "I", Cond.fieldLink RX4 27 "Forwardroll$Deal" "agreedRate" "I", Cond.fieldLink RX4 19 "Forwardroll$Deal" "buys" "Z", Cond.static yX5_homeAmount, Cond.initialized RX5, Cond.code yX5_homeAmount cX5_homeAmount 2 (some .long), Cond.constantLong RX5 227 (10000)]
def wsX4_marketGain : List Cond := .code yX4_marketGain cX4_marketGain 2 (some .long) :: ((wsX4_marketGain_r1 ++ wsX4_marketGain_r2) ++ wsX40 ++ wsX20)
def wsX4_shiftedLoss_r1 : List Cond := [Cond.methodLink RX4 49 Lib.Math.max.name, Cond.static Lib.Math.max.name, Cond.initialized "java/lang/Math", Cond.code Lib.Math.max.name Lib.Math.max.code 2 (some .int), Cond.methodLink RX4 42 yX4_marketRate, Cond.instanceMethod yX4_marketRate, Cond.selects RX4 yX4_marketRate yX4_marketRate, Cond.initialized RX4, Cond.code yX4_marketRate cX4_marketRate 2 (some .int), Cond.fieldLink RX4 15 "Forwardroll$Deal" "currency" "LForwardroll$Currency;", Cond.fieldLink RX4 33 "Forwardroll$Deal" "lastDay" "I", Cond.methodLink RX4 36 yX2_forwardRate, Cond.instanceMethod yX2_forwardRate, Cond.selects RX2 yX2_forwardRate yX2_forwardRate, Cond.initialized RX2, Cond.code yX2_forwardRate cX2_forwardRate 2 (some .int), Cond.fieldLink RX2 9 "Forwardroll$Currency" "spotRate" "I", Cond.methodLink RX2 18 yX2_laterRate, Cond.instanceMethod yX2_laterRate, Cond.selects RX2 yX2_laterRate yX2_laterRate, Cond.code yX2_laterRate cX2_laterRate 3 (some .int), Cond.fieldLink RX2 22 "Forwardroll$Currency" "points" "I", Cond.methodLink RX2 25 Lib.Math.max.name, Cond.methodLink RX4 45 yX4_gainAt]
def wsX4_shiftedLoss_r2 : List Cond := [Cond.instanceMethod yX4_gainAt, Cond.selects RX4 yX4_gainAt yX4_gainAt, Cond.code yX4_gainAt cX4_gainAt 4 (some .long), Cond.fieldLink RX4 23 "Forwardroll$Deal" "amountLeft" "I", Cond.fieldLink RX4 27 "Forwardroll$Deal" "agreedRate" "I", Cond.fieldLink RX4 19 "Forwardroll$Deal" "buys" "Z", Cond.static yX5_homeAmount, Cond.initialized RX5, Cond.code yX5_homeAmount cX5_homeAmount 2 (some .long), Cond.constantLong RX5 227 (10000)]
def wsX4_shiftedLoss : List Cond := .code yX4_shiftedLoss cX4_shiftedLoss 4 (some .long) :: ((wsX4_shiftedLoss_r1 ++ wsX4_shiftedLoss_r2) ++ wsX40 ++ wsX20)
def wsX4_drawingRate : List Cond := .code yX4_drawingRate cX4_drawingRate 2 (some .int) :: ([.fieldLink RX4 30 "Forwardroll$Deal" "firstDay" "I", .fieldLink RX4 15 "Forwardroll$Deal" "currency" "LForwardroll$Currency;", .fieldLink RX4 27 "Forwardroll$Deal" "agreedRate" "I", .methodLink RX4 55 yX2_laterRate, .instanceMethod yX2_laterRate, .selects RX2 yX2_laterRate yX2_laterRate, .initialized RX2, .code yX2_laterRate cX2_laterRate 3 (some .int), .fieldLink RX2 22 "Forwardroll$Currency" "points" "I", .methodLink RX2 25 Lib.Math.max.name, .static Lib.Math.max.name, .initialized "java/lang/Math", .code Lib.Math.max.name Lib.Math.max.code 2 (some .int)] ++ wsX40 ++ wsX20)
def wsX4_moveWindow : List Cond := .code yX4_moveWindow cX4_moveWindow 2 none :: ([.fieldLink RX4 33 "Forwardroll$Deal" "lastDay" "I", .fieldLink RX4 30 "Forwardroll$Deal" "firstDay" "I"] ++ wsX40)
def wsX5_init_r1 : List Cond := [Cond.methodLink RX5 3 objectInit, Cond.instanceMethod objectInit, Cond.code objectInit ⟨#[0xb1]⟩ 1 none, Cond.classLink RX5 9 RX1, Cond.instantiable RX1 2, Cond.initialized RX1, Cond.fieldLink RX5 12 "Forwardroll" "calendar" "LForwardroll$Calendar;", Cond.classLink RX5 16 RX2, Cond.fieldLink RX5 18 "Forwardroll" "currencies" "[LForwardroll$Currency;", Cond.instantiable RX2 3, Cond.initialized RX2, Cond.classLink RX5 25 RX3, Cond.fieldLink RX5 27 "Forwardroll" "customers" "[LForwardroll$Customer;", Cond.instantiable RX3 3, Cond.initialized RX3, Cond.classLink RX5 32 RX4, Cond.fieldLink RX5 34 "Forwardroll" "deals" "[LForwardroll$Deal;", Cond.instanceMethod yX1_init, Cond.code yX1_init cX1_init 1 none, Cond.methodLink RX1 3 objectInit, Cond.arrayClass .boolean, Cond.fieldLink RX1 9 "Forwardroll$Calendar" "holidays" "[Z", Cond.methodLink RX5 22 yX2_init, Cond.instanceMethod yX2_init]
def wsX5_init_r2 : List Cond := [Cond.code yX2_init cX2_init 2 none, Cond.methodLink RX2 3 objectInit, Cond.fieldLink RX2 9 "Forwardroll$Currency" "spotRate" "I", Cond.fieldLink RX2 15 "Forwardroll$Currency" "number" "I", Cond.instanceMethod yX3_init, Cond.code yX3_init cX3_init 1 none, Cond.methodLink RX3 3 objectInit, Cond.constant RX3 9 (1000000), Cond.fieldLink RX3 10 "Forwardroll$Customer" "limit" "I", Cond.classLink RX3 16 RX0, Cond.fieldLink RX3 18 "Forwardroll$Customer" "netAmounts" "[LForwardroll$Amounts;", Cond.instantiable RX0 1, Cond.initialized RX0, Cond.fieldLink RX3 23 "Forwardroll$Customer" "balances" "LForwardroll$Amounts;", Cond.instanceMethod yX0_init, Cond.code yX0_init cX0_init 1 none, Cond.methodLink RX0 3 objectInit, Cond.arrayClass .long, Cond.fieldLink RX0 9 "Forwardroll$Amounts" "byMoney" "[J"]
def wsX5_init : List Cond := .code yX5_init cX5_init 2 none :: ((wsX5_init_r1 ++ wsX5_init_r2) ++ wsX10 ++ wsX50 ++ wsX20 ++ wsX30 ++ wsX00)
def wsX5_currencyNumbered : List Cond := .code yX5_currencyNumbered cX5_currencyNumbered 3 (some (.object "Forwardroll$Currency")) :: ([.classLink RX5 200 "java/lang/IndexOutOfBoundsException", .initialized "java/lang/IndexOutOfBoundsException", .fieldLink RX5 18 "Forwardroll" "currencies" "[LForwardroll$Currency;", .methodLink RX5 84 yX5_isIndex, .static yX5_isIndex, .initialized RX5, .code yX5_isIndex cX5_isIndex 2 (some .boolean)] ++ wsX50 ++ (vx_atS RX5 204 "java/lang/IndexOutOfBoundsException" ["java/lang/RuntimeException", "java/lang/Exception"]).filter goodWord)
def wsX5_requireRange : List Cond := .code yX5_requireRange cX5_requireRange 3 none :: ([.classLink RX5 209 "java/lang/IllegalArgumentException", .initialized "java/lang/IllegalArgumentException"] ++ (vx_atS RX5 213 "java/lang/IllegalArgumentException" ["java/lang/RuntimeException", "java/lang/Exception"]).filter goodWord)
def wsX5_setRate : List Cond := .code yX5_setRate cX5_setRate 5 (some .int) :: ([.constant RX5 42 (100000), .methodLink RX5 38 yX5_currencyNumbered, .instanceMethod yX5_currencyNumbered, .selects RX5 yX5_currencyNumbered yX5_currencyNumbered, .initialized RX5, .code yX5_currencyNumbered cX5_currencyNumbered 3 (some (.object "Forwardroll$Currency")), .classLink RX5 200 "java/lang/IndexOutOfBoundsException", .initialized "java/lang/IndexOutOfBoundsException", .fieldLink RX5 18 "Forwardroll" "currencies" "[LForwardroll$Currency;", .methodLink RX5 84 yX5_isIndex, .static yX5_isIndex, .code yX5_isIndex cX5_isIndex 2 (some .boolean), .methodLink RX5 43 yX5_requireRange, .static yX5_requireRange, .code yX5_requireRange cX5_requireRange 3 none, .classLink RX5 209 "java/lang/IllegalArgumentException", .initialized "java/lang/IllegalArgumentException"] ++ wsX20 ++ wsX50 ++ (vx_atS RX5 204 "java/lang/IndexOutOfBoundsException" ["java/lang/RuntimeException", "java/lang/Exception"]).filter goodWord ++ (vx_atS RX5 213 "java/lang/IllegalArgumentException" ["java/lang/RuntimeException", "java/lang/Exception"]).filter goodWord)
def wsX5_setPoints : List Cond := .code yX5_setPoints cX5_setPoints 5 (some .int) :: ([.methodLink RX5 38 yX5_currencyNumbered, .instanceMethod yX5_currencyNumbered, .selects RX5 yX5_currencyNumbered yX5_currencyNumbered, .initialized RX5, .code yX5_currencyNumbered cX5_currencyNumbered 3 (some (.object "Forwardroll$Currency")), .classLink RX5 200 "java/lang/IndexOutOfBoundsException", .initialized "java/lang/IndexOutOfBoundsException", .fieldLink RX5 18 "Forwardroll" "currencies" "[LForwardroll$Currency;", .methodLink RX5 84 yX5_isIndex, .static yX5_isIndex, .code yX5_isIndex cX5_isIndex 2 (some .boolean), .methodLink RX5 43 yX5_requireRange, .static yX5_requireRange, .code yX5_requireRange cX5_requireRange 3 none, .classLink RX5 209 "java/lang/IllegalArgumentException", .initialized "java/lang/IllegalArgumentException"] ++ wsX20 ++ wsX50 ++ (vx_atS RX5 204 "java/lang/IndexOutOfBoundsException" ["java/lang/RuntimeException", "java/lang/Exception"]).filter goodWord ++ (vx_atS RX5 213 "java/lang/IllegalArgumentException" ["java/lang/RuntimeException", "java/lang/Exception"]).filter goodWord)
def wsX5_toggleHoliday : List Cond := .code yX5_toggleHoliday cX5_toggleHoliday 2 (some .boolean) :: ([.classLink RX5 57 "java/lang/IllegalStateException", .initialized "java/lang/IllegalStateException", .fieldLink RX5 12 "Forwardroll" "calendar" "LForwardroll$Calendar;", .methodLink RX5 43 yX5_requireRange, .static yX5_requireRange, .initialized RX5, .code yX5_requireRange cX5_requireRange 3 none, .classLink RX5 209 "java/lang/IllegalArgumentException", .initialized "java/lang/IllegalArgumentException", .methodLink RX5 64 yX1_flipHoliday, .instanceMethod yX1_flipHoliday, .selects RX1 yX1_flipHoliday yX1_flipHoliday, .initialized RX1, .code yX1_flipHoliday cX1_flipHoliday 2 (some .boolean), .fieldLink RX1 9 "Forwardroll$Calendar" "holidays" "[Z", .static yX5_isIndex, .code yX5_isIndex cX5_isIndex 2 (some .boolean)] ++ wsX50 ++ wsX10 ++ (vx_atS RX5 61 "java/lang/IllegalStateException" ["java/lang/RuntimeException", "java/lang/Exception"]).filter goodWord ++ (vx_atS RX5 213 "java/lang/IllegalArgumentException" ["java/lang/RuntimeException", "java/lang/Exception"]).filter goodWord)
def wsX5_customerNumbered : List Cond := .code yX5_customerNumbered cX5_customerNumbered 3 (some (.object "Forwardroll$Customer")) :: ([.classLink RX5 200 "java/lang/IndexOutOfBoundsException", .initialized "java/lang/IndexOutOfBoundsException", .fieldLink RX5 27 "Forwardroll" "customers" "[LForwardroll$Customer;", .methodLink RX5 84 yX5_isIndex, .static yX5_isIndex, .initialized RX5, .code yX5_isIndex cX5_isIndex 2 (some .boolean)] ++ wsX50 ++ (vx_atS RX5 204 "java/lang/IndexOutOfBoundsException" ["java/lang/RuntimeException", "java/lang/Exception"]).filter goodWord)
def wsX5_setLimit : List Cond := .code yX5_setLimit cX5_setLimit 5 (some .int) :: ([.constant RX5 72 (100000000), .methodLink RX5 68 yX5_customerNumbered, .instanceMethod yX5_customerNumbered, .selects RX5 yX5_customerNumbered yX5_customerNumbered, .initialized RX5, .code yX5_customerNumbered cX5_customerNumbered 3 (some (.object "Forwardroll$Customer")), .classLink RX5 200 "java/lang/IndexOutOfBoundsException", .initialized "java/lang/IndexOutOfBoundsException", .fieldLink RX5 27 "Forwardroll" "customers" "[LForwardroll$Customer;", .methodLink RX5 84 yX5_isIndex, .static yX5_isIndex, .code yX5_isIndex cX5_isIndex 2 (some .boolean), .methodLink RX5 43 yX5_requireRange, .static yX5_requireRange, .code yX5_requireRange cX5_requireRange 3 none, .classLink RX5 209 "java/lang/IllegalArgumentException", .initialized "java/lang/IllegalArgumentException"] ++ wsX30 ++ wsX50 ++ (vx_atS RX5 204 "java/lang/IndexOutOfBoundsException" ["java/lang/RuntimeException", "java/lang/Exception"]).filter goodWord ++ (vx_atS RX5 213 "java/lang/IllegalArgumentException" ["java/lang/RuntimeException", "java/lang/Exception"]).filter goodWord)
def wsX5_forward_r1 : List Cond := [Cond.methodLink RX5 38 yX5_currencyNumbered, Cond.instanceMethod yX5_currencyNumbered, Cond.selects RX5 yX5_currencyNumbered yX5_currencyNumbered, Cond.initialized RX5, Cond.code yX5_currencyNumbered cX5_currencyNumbered 3 (some (.object "Forwardroll$Currency")), Cond.classLink RX5 200 "java/lang/IndexOutOfBoundsException", Cond.initialized "java/lang/IndexOutOfBoundsException", Cond.fieldLink RX5 18 "Forwardroll" "currencies" "[LForwardroll$Currency;", Cond.methodLink RX5 84 yX5_isIndex, Cond.static yX5_isIndex, Cond.code yX5_isIndex cX5_isIndex 2 (some .boolean), Cond.methodLink RX5 43 yX5_requireRange, Cond.static yX5_requireRange, Cond.code yX5_requireRange cX5_requireRange 3 none, Cond.classLink RX5 209 "java/lang/IllegalArgumentException", Cond.initialized "java/lang/IllegalArgumentException", Cond.methodLink RX5 76 yX2_forwardRate, Cond.instanceMethod yX2_forwardRate, Cond.selects RX2 yX2_forwardRate yX2_forwardRate, Cond.initialized RX2, Cond.code yX2_forwardRate cX2_forwardRate 2 (some .int), Cond.fieldLink RX2 9 "Forwardroll$Currency" "spotRate" "I", Cond.methodLink RX2 18 yX2_laterRate, Cond.instanceMethod yX2_laterRate]
def wsX5_forward_r2 : List Cond := [Cond.selects RX2 yX2_laterRate yX2_laterRate, Cond.code yX2_laterRate cX2_laterRate 3 (some .int), Cond.fieldLink RX2 22 "Forwardroll$Currency" "points" "I", Cond.methodLink RX2 25 Lib.Math.max.name, Cond.static Lib.Math.max.name, Cond.initialized "java/lang/Math", Cond.code Lib.Math.max.name Lib.Math.max.code 2 (some .int)]
def wsX5_forward : List Cond := .code yX5_forward cX5_forward 4 (some .int) :: ((wsX5_forward_r1 ++ wsX5_forward_r2) ++ wsX50 ++ wsX20 ++ (vx_atS RX5 204 "java/lang/IndexOutOfBoundsException" ["java/lang/RuntimeException", "java/lang/Exception"]).filter goodWord ++ (vx_atS RX5 213 "java/lang/IllegalArgumentException" ["java/lang/RuntimeException", "java/lang/Exception"]).filter goodWord)
def wsX5_lossOfAll_r1 : List Cond := [Cond.fieldLink RX5 34 "Forwardroll" "deals" "[LForwardroll$Deal;", Cond.fieldLink RX5 12 "Forwardroll" "calendar" "LForwardroll$Calendar;", Cond.methodLink RX5 219 yX4_shiftedLoss, Cond.instanceMethod yX4_shiftedLoss, Cond.selects RX4 yX4_shiftedLoss yX4_shiftedLoss, Cond.initialized RX4, Cond.code yX4_shiftedLoss cX4_shiftedLoss 4 (some .long), Cond.methodLink RX4 49 Lib.Math.max.name, Cond.static Lib.Math.max.name, Cond.initialized "java/lang/Math", Cond.code Lib.Math.max.name Lib.Math.max.code 2 (some .int), Cond.methodLink RX4 42 yX4_marketRate, Cond.instanceMethod yX4_marketRate, Cond.selects RX4 yX4_marketRate yX4_marketRate, Cond.code yX4_marketRate cX4_marketRate 2 (some .int), Cond.fieldLink RX4 15 "Forwardroll$Deal" "currency" "LForwardroll$Currency;", Cond.fieldLink RX4 33 "Forwardroll$Deal" "lastDay" "I", Cond.methodLink RX4 36 yX2_forwardRate, Cond.instanceMethod yX2_forwardRate, Cond.selects RX2 yX2_forwardRate yX2_forwardRate, Cond.initialized RX2, Cond.code yX2_forwardRate cX2_forwardRate 2 (some .int), Cond.fieldLink RX2 9 "Forwardroll$Currency" "spotRate" "I", Cond.methodLink RX2 18 yX2_laterRate]
def wsX5_lossOfAll_r2 : List Cond := [Cond.instanceMethod yX2_laterRate, Cond.selects RX2 yX2_laterRate yX2_laterRate, Cond.code yX2_laterRate cX2_laterRate 3 (some .int), Cond.fieldLink RX2 22 "Forwardroll$Currency" "points" "I", Cond.methodLink RX2 25 Lib.Math.max.name, Cond.methodLink RX4 45 yX4_gainAt, Cond.instanceMethod yX4_gainAt, Cond.selects RX4 yX4_gainAt yX4_gainAt, Cond.code yX4_gainAt cX4_gainAt 4 (some .long), Cond.fieldLink RX4 23 "Forwardroll$Deal" "amountLeft" "I", Cond.fieldLink RX4 27 "Forwardroll$Deal" "agreedRate" "I", Cond.fieldLink RX4 19 "Forwardroll$Deal" "buys" "Z", Cond.static yX5_homeAmount, Cond.initialized RX5, Cond.code yX5_homeAmount cX5_homeAmount 2 (some .long), Cond.constantLong RX5 227 (10000)]
def wsX5_lossOfAll : List Cond := .code yX5_lossOfAll cX5_lossOfAll 9 (some .long) :: ((wsX5_lossOfAll_r1 ++ wsX5_lossOfAll_r2) ++ wsX50 ++ wsX40 ++ wsX10 ++ wsX20)
def wsX5_worseLoss : List Cond := .code yX5_worseLoss cX5_worseLoss 4 (some .long) :: ([.methodLink RX5 222 Lib.MathLoose.max_long.x, .static Lib.MathLoose.max_long.x, .initialized "java/lang/Math", .code Lib.MathLoose.max_long.x Lib.MathLoose.max_long.code 4 (some .long)])
def wsX5_exposureWith_r1 : List Cond := [Cond.fieldLink RX5 12 "Forwardroll" "calendar" "LForwardroll$Calendar;", Cond.methodLink RX5 172 yX5_lossOfAll, Cond.instanceMethod yX5_lossOfAll, Cond.selects RX5 yX5_lossOfAll yX5_lossOfAll, Cond.initialized RX5, Cond.code yX5_lossOfAll cX5_lossOfAll 9 (some .long), Cond.fieldLink RX5 34 "Forwardroll" "deals" "[LForwardroll$Deal;", Cond.methodLink RX5 219 yX4_shiftedLoss, Cond.instanceMethod yX4_shiftedLoss, Cond.selects RX4 yX4_shiftedLoss yX4_shiftedLoss, Cond.initialized RX4, Cond.code yX4_shiftedLoss cX4_shiftedLoss 4 (some .long), Cond.methodLink RX4 49 Lib.Math.max.name, Cond.static Lib.Math.max.name, Cond.initialized "java/lang/Math", Cond.code Lib.Math.max.name Lib.Math.max.code 2 (some .int), Cond.methodLink RX4 42 yX4_marketRate, Cond.instanceMethod yX4_marketRate, Cond.selects RX4 yX4_marketRate yX4_marketRate, Cond.code yX4_marketRate cX4_marketRate 2 (some .int), Cond.fieldLink RX4 15 "Forwardroll$Deal" "currency" "LForwardroll$Currency;", Cond.fieldLink RX4 33 "Forwardroll$Deal" "lastDay" "I", Cond.methodLink RX4 36 yX2_forwardRate, Cond.instanceMethod yX2_forwardRate]
def wsX5_exposureWith_r2 : List Cond := [Cond.selects RX2 yX2_forwardRate yX2_forwardRate, Cond.initialized RX2, Cond.code yX2_forwardRate cX2_forwardRate 2 (some .int), Cond.fieldLink RX2 9 "Forwardroll$Currency" "spotRate" "I", Cond.methodLink RX2 18 yX2_laterRate, Cond.instanceMethod yX2_laterRate, Cond.selects RX2 yX2_laterRate yX2_laterRate, Cond.code yX2_laterRate cX2_laterRate 3 (some .int), Cond.fieldLink RX2 22 "Forwardroll$Currency" "points" "I", Cond.methodLink RX2 25 Lib.Math.max.name, Cond.methodLink RX4 45 yX4_gainAt, Cond.instanceMethod yX4_gainAt, Cond.selects RX4 yX4_gainAt yX4_gainAt, Cond.code yX4_gainAt cX4_gainAt 4 (some .long), Cond.fieldLink RX4 23 "Forwardroll$Deal" "amountLeft" "I", Cond.fieldLink RX4 27 "Forwardroll$Deal" "agreedRate" "I", Cond.fieldLink RX4 19 "Forwardroll$Deal" "buys" "Z", Cond.static yX5_homeAmount, Cond.code yX5_homeAmount cX5_homeAmount 2 (some .long), Cond.constantLong RX5 227 (10000), Cond.methodLink RX5 176 yX5_worseLoss, Cond.static yX5_worseLoss, Cond.code yX5_worseLoss cX5_worseLoss 4 (some .long), Cond.methodLink RX5 222 Lib.MathLoose.max_long.x]
def wsX5_exposureWith_r3 : List Cond := [Cond.static Lib.MathLoose.max_long.x, Cond.code Lib.MathLoose.max_long.x Lib.MathLoose.max_long.code 4 (some .long)]
def wsX5_exposureWith : List Cond := .code yX5_exposureWith cX5_exposureWith 4 (some .long) :: ((wsX5_exposureWith_r1 ++ (wsX5_exposureWith_r2 ++ wsX5_exposureWith_r3)) ++ wsX50 ++ wsX10 ++ wsX40 ++ wsX20)
def wsX5_deal_r1 : List Cond := [Cond.classLink RX5 57 "java/lang/IllegalStateException", Cond.initialized "java/lang/IllegalStateException", Cond.constant RX5 80 (1000000), Cond.fieldLink RX5 81 "Forwardroll" "dealCount" "I", Cond.fieldLink RX5 34 "Forwardroll" "deals" "[LForwardroll$Deal;", Cond.fieldLink RX5 12 "Forwardroll" "calendar" "LForwardroll$Calendar;", Cond.classLink RX5 32 RX4, Cond.instantiable RX4 7, Cond.initialized RX4, Cond.methodLink RX5 68 yX5_customerNumbered, Cond.instanceMethod yX5_customerNumbered, Cond.selects RX5 yX5_customerNumbered yX5_customerNumbered, Cond.initialized RX5, Cond.code yX5_customerNumbered cX5_customerNumbered 3 (some (.object "Forwardroll$Customer")), Cond.classLink RX5 200 "java/lang/IndexOutOfBoundsException", Cond.initialized "java/lang/IndexOutOfBoundsException", Cond.fieldLink RX5 27 "Forwardroll" "customers" "[LForwardroll$Customer;", Cond.methodLink RX5 84 yX5_isIndex, Cond.static yX5_isIndex, Cond.code yX5_isIndex cX5_isIndex 2 (some .boolean), Cond.methodLink RX5 38 yX5_currencyNumbered, Cond.instanceMethod yX5_currencyNumbered, Cond.selects RX5 yX5_currencyNumbered yX5_currencyNumbered, Cond.code yX5_currencyNumbered cX5_currencyNumbered 3 (some (.object "Forwardroll$Currency"))]
def wsX5_deal_r2 : List Cond := [Cond.fieldLink RX5 18 "Forwardroll" "currencies" "[LForwardroll$Currency;", Cond.methodLink RX5 43 yX5_requireRange, Cond.static yX5_requireRange, Cond.code yX5_requireRange cX5_requireRange 3 none, Cond.classLink RX5 209 "java/lang/IllegalArgumentException", Cond.initialized "java/lang/IllegalArgumentException", Cond.methodLink RX5 76 yX2_forwardRate, Cond.instanceMethod yX2_forwardRate, Cond.selects RX2 yX2_forwardRate yX2_forwardRate, Cond.initialized RX2, Cond.code yX2_forwardRate cX2_forwardRate 2 (some .int), Cond.fieldLink RX2 9 "Forwardroll$Currency" "spotRate" "I", Cond.methodLink RX2 18 yX2_laterRate, Cond.instanceMethod yX2_laterRate, Cond.selects RX2 yX2_laterRate yX2_laterRate, Cond.code yX2_laterRate cX2_laterRate 3 (some .int), Cond.fieldLink RX2 22 "Forwardroll$Currency" "points" "I", Cond.methodLink RX2 25 Lib.Math.max.name, Cond.static Lib.Math.max.name, Cond.initialized "java/lang/Math", Cond.code Lib.Math.max.name Lib.Math.max.code 2 (some .int), Cond.methodLink RX5 90 yX4_init, Cond.instanceMethod yX4_init, Cond.code yX4_init cX4_init 8 none]
def wsX5_deal_r3 : List Cond := [Cond.methodLink RX4 3 objectInit, Cond.instanceMethod objectInit, Cond.code objectInit ⟨#[0xb1]⟩ 1 none, Cond.fieldLink RX4 9 "Forwardroll$Deal" "customer" "LForwardroll$Customer;", Cond.fieldLink RX4 15 "Forwardroll$Deal" "currency" "LForwardroll$Currency;", Cond.fieldLink RX4 19 "Forwardroll$Deal" "buys" "Z", Cond.fieldLink RX4 23 "Forwardroll$Deal" "amountLeft" "I", Cond.fieldLink RX4 27 "Forwardroll$Deal" "agreedRate" "I", Cond.fieldLink RX4 30 "Forwardroll$Deal" "firstDay" "I", Cond.fieldLink RX4 33 "Forwardroll$Deal" "lastDay" "I", Cond.methodLink RX5 93 yX5_exposureWith, Cond.instanceMethod yX5_exposureWith, Cond.selects RX5 yX5_exposureWith yX5_exposureWith, Cond.code yX5_exposureWith cX5_exposureWith 4 (some .long), Cond.methodLink RX5 172 yX5_lossOfAll, Cond.instanceMethod yX5_lossOfAll, Cond.selects RX5 yX5_lossOfAll yX5_lossOfAll, Cond.code yX5_lossOfAll cX5_lossOfAll 9 (some .long), Cond.methodLink RX5 219 yX4_shiftedLoss, Cond.instanceMethod yX4_shiftedLoss, Cond.selects RX4 yX4_shiftedLoss yX4_shiftedLoss, Cond.code yX4_shiftedLoss cX4_shiftedLoss 4 (some .long), Cond.methodLink RX4 49 Lib.Math.max.name, Cond.methodLink RX4 42 yX4_marketRate]
def wsX5_deal_r4 : List Cond := [Cond.instanceMethod yX4_marketRate, Cond.selects RX4 yX4_marketRate yX4_marketRate, Cond.code yX4_marketRate cX4_marketRate 2 (some .int), Cond.methodLink RX4 36 yX2_forwardRate, Cond.methodLink RX4 45 yX4_gainAt, Cond.instanceMethod yX4_gainAt, Cond.selects RX4 yX4_gainAt yX4_gainAt, Cond.code yX4_gainAt cX4_gainAt 4 (some .long), Cond.static yX5_homeAmount, Cond.code yX5_homeAmount cX5_homeAmount 2 (some .long), Cond.constantLong RX5 227 (10000), Cond.methodLink RX5 176 yX5_worseLoss, Cond.static yX5_worseLoss, Cond.code yX5_worseLoss cX5_worseLoss 4 (some .long), Cond.methodLink RX5 222 Lib.MathLoose.max_long.x, Cond.static Lib.MathLoose.max_long.x, Cond.code Lib.MathLoose.max_long.x Lib.MathLoose.max_long.code 4 (some .long)]
def wsX5_deal : List Cond := .code yX5_deal cX5_deal 12 (some .int) :: ((wsX5_deal_r1 ++ (wsX5_deal_r2 ++ (wsX5_deal_r3 ++ wsX5_deal_r4))) ++ wsX50 ++ wsX10 ++ wsX40 ++ wsX30 ++ wsX20 ++ (vx_atS RX5 61 "java/lang/IllegalStateException" ["java/lang/RuntimeException", "java/lang/Exception"]).filter goodWord ++ (vx_atS RX5 204 "java/lang/IndexOutOfBoundsException" ["java/lang/RuntimeException", "java/lang/Exception"]).filter goodWord ++ (vx_atS RX5 213 "java/lang/IllegalArgumentException" ["java/lang/RuntimeException", "java/lang/Exception"]).filter goodWord)
def wsX5_dealNumbered : List Cond := .code yX5_dealNumbered cX5_dealNumbered 3 (some (.object "Forwardroll$Deal")) :: ([.classLink RX5 200 "java/lang/IndexOutOfBoundsException", .initialized "java/lang/IndexOutOfBoundsException", .fieldLink RX5 34 "Forwardroll" "deals" "[LForwardroll$Deal;", .methodLink RX5 84 yX5_isIndex, .static yX5_isIndex, .initialized RX5, .code yX5_isIndex cX5_isIndex 2 (some .boolean)] ++ wsX50 ++ (vx_atS RX5 204 "java/lang/IndexOutOfBoundsException" ["java/lang/RuntimeException", "java/lang/Exception"]).filter goodWord)
def wsX5_draw_r1 : List Cond := [Cond.fieldLink RX5 12 "Forwardroll" "calendar" "LForwardroll$Calendar;", Cond.methodLink RX5 99 yX5_dealNumbered, Cond.instanceMethod yX5_dealNumbered, Cond.selects RX5 yX5_dealNumbered yX5_dealNumbered, Cond.initialized RX5, Cond.code yX5_dealNumbered cX5_dealNumbered 3 (some (.object "Forwardroll$Deal")), Cond.classLink RX5 200 "java/lang/IndexOutOfBoundsException", Cond.initialized "java/lang/IndexOutOfBoundsException", Cond.fieldLink RX5 34 "Forwardroll" "deals" "[LForwardroll$Deal;", Cond.methodLink RX5 84 yX5_isIndex, Cond.static yX5_isIndex, Cond.code yX5_isIndex cX5_isIndex 2 (some .boolean), Cond.methodLink RX5 43 yX5_requireRange, Cond.static yX5_requireRange, Cond.code yX5_requireRange cX5_requireRange 3 none, Cond.classLink RX5 209 "java/lang/IllegalArgumentException", Cond.initialized "java/lang/IllegalArgumentException", Cond.methodLink RX5 106 yX4_drawingRate, Cond.instanceMethod yX4_drawingRate, Cond.selects RX4 yX4_drawingRate yX4_drawingRate, Cond.initialized RX4, Cond.code yX4_drawingRate cX4_drawingRate 2 (some .int), Cond.fieldLink RX4 30 "Forwardroll$Deal" "firstDay" "I", Cond.fieldLink RX4 15 "Forwardroll$Deal" "currency" "LForwardroll$Currency;"]
def wsX5_draw_r2 : List Cond := [Cond.fieldLink RX4 27 "Forwardroll$Deal" "agreedRate" "I", Cond.methodLink RX4 55 yX2_laterRate, Cond.instanceMethod yX2_laterRate, Cond.selects RX2 yX2_laterRate yX2_laterRate, Cond.initialized RX2, Cond.code yX2_laterRate cX2_laterRate 3 (some .int), Cond.fieldLink RX2 22 "Forwardroll$Currency" "points" "I", Cond.methodLink RX2 25 Lib.Math.max.name, Cond.static Lib.Math.max.name, Cond.initialized "java/lang/Math", Cond.code Lib.Math.max.name Lib.Math.max.code 2 (some .int), Cond.methodLink RX5 109 yX5_homeAmount, Cond.static yX5_homeAmount, Cond.code yX5_homeAmount cX5_homeAmount 2 (some .long), Cond.constantLong RX5 227 (10000), Cond.methodLink RX5 113 yX1_nextBusinessDay, Cond.instanceMethod yX1_nextBusinessDay, Cond.selects RX1 yX1_nextBusinessDay yX1_nextBusinessDay, Cond.initialized RX1, Cond.code yX1_nextBusinessDay cX1_nextBusinessDay 2 (some .int), Cond.fieldLink RX1 19 "Forwardroll$Calendar" "today" "I", Cond.methodLink RX1 23 yX1_isBusinessDay, Cond.instanceMethod yX1_isBusinessDay, Cond.selects RX1 yX1_isBusinessDay yX1_isBusinessDay]
def wsX5_draw_r3 : List Cond := [Cond.code yX1_isBusinessDay cX1_isBusinessDay 3 (some .boolean), Cond.fieldLink RX1 9 "Forwardroll$Calendar" "holidays" "[Z", Cond.methodLink RX5 132 yX3_book, Cond.instanceMethod yX3_book, Cond.selects RX3 yX3_book yX3_book, Cond.initialized RX3, Cond.code yX3_book cX3_book 6 none, Cond.fieldLink RX3 18 "Forwardroll$Customer" "netAmounts" "[LForwardroll$Amounts;", Cond.classLink RX3 16 RX0, Cond.instantiable RX0 1, Cond.initialized RX0, Cond.instanceMethod yX0_init, Cond.code yX0_init cX0_init 1 none, Cond.methodLink RX0 3 objectInit, Cond.instanceMethod objectInit, Cond.code objectInit ⟨#[0xb1]⟩ 1 none, Cond.arrayClass .long, Cond.fieldLink RX0 9 "Forwardroll$Amounts" "byMoney" "[J", Cond.methodLink RX3 31 yX0_add, Cond.instanceMethod yX0_add, Cond.selects RX0 yX0_add yX0_add, Cond.code yX0_add cX0_add 4 none]
def wsX5_draw : List Cond := .code yX5_draw cX5_draw 8 (some .int) :: ((wsX5_draw_r1 ++ (wsX5_draw_r2 ++ wsX5_draw_r3)) ++ wsX40 ++ wsX50 ++ wsX10 ++ wsX20 ++ wsX30 ++ wsX00 ++ (vx_atS RX5 204 "java/lang/IndexOutOfBoundsException" ["java/lang/RuntimeException", "java/lang/Exception"]).filter goodWord ++ (vx_atS RX5 213 "java/lang/IllegalArgumentException" ["java/lang/RuntimeException", "java/lang/Exception"]).filter goodWord)
def wsX5_requireLeft : List Cond := .code yX5_requireLeft cX5_requireLeft 1 none :: ([.classLink RX5 57 "java/lang/IllegalStateException", .initialized "java/lang/IllegalStateException"] ++ wsX40 ++ (vx_atS RX5 61 "java/lang/IllegalStateException" ["java/lang/RuntimeException", "java/lang/Exception"]).filter goodWord)
def wsX5_bookGain_r1 : List Cond := [Cond.fieldLink RX5 12 "Forwardroll" "calendar" "LForwardroll$Calendar;", Cond.methodLink RX5 168 yX4_marketGain, Cond.instanceMethod yX4_marketGain, Cond.selects RX4 yX4_marketGain yX4_marketGain, Cond.initialized RX4, Cond.code yX4_marketGain cX4_marketGain 2 (some .long), Cond.methodLink RX4 42 yX4_marketRate, Cond.instanceMethod yX4_marketRate, Cond.selects RX4 yX4_marketRate yX4_marketRate, Cond.code yX4_marketRate cX4_marketRate 2 (some .int), Cond.fieldLink RX4 15 "Forwardroll$Deal" "currency" "LForwardroll$Currency;", Cond.fieldLink RX4 33 "Forwardroll$Deal" "lastDay" "I", Cond.methodLink RX4 36 yX2_forwardRate, Cond.instanceMethod yX2_forwardRate, Cond.selects RX2 yX2_forwardRate yX2_forwardRate, Cond.initialized RX2, Cond.code yX2_forwardRate cX2_forwardRate 2 (some .int), Cond.fieldLink RX2 9 "Forwardroll$Currency" "spotRate" "I", Cond.methodLink RX2 18 yX2_laterRate, Cond.instanceMethod yX2_laterRate, Cond.selects RX2 yX2_laterRate yX2_laterRate, Cond.code yX2_laterRate cX2_laterRate 3 (some .int), Cond.fieldLink RX2 22 "Forwardroll$Currency" "points" "I", Cond.methodLink RX2 25 Lib.Math.max.name]
def wsX5_bookGain_r2 : List Cond := [Cond.static Lib.Math.max.name, Cond.initialized "java/lang/Math", Cond.code Lib.Math.max.name Lib.Math.max.code 2 (some .int), Cond.methodLink RX4 45 yX4_gainAt, Cond.instanceMethod yX4_gainAt, Cond.selects RX4 yX4_gainAt yX4_gainAt, Cond.code yX4_gainAt cX4_gainAt 4 (some .long), Cond.fieldLink RX4 23 "Forwardroll$Deal" "amountLeft" "I", Cond.fieldLink RX4 27 "Forwardroll$Deal" "agreedRate" "I", Cond.fieldLink RX4 19 "Forwardroll$Deal" "buys" "Z", Cond.static yX5_homeAmount, Cond.initialized RX5, Cond.code yX5_homeAmount cX5_homeAmount 2 (some .long), Cond.constantLong RX5 227 (10000), Cond.methodLink RX5 113 yX1_nextBusinessDay, Cond.instanceMethod yX1_nextBusinessDay, Cond.selects RX1 yX1_nextBusinessDay yX1_nextBusinessDay, Cond.initialized RX1, Cond.code yX1_nextBusinessDay cX1_nextBusinessDay 2 (some .int), Cond.fieldLink RX1 19 "Forwardroll$Calendar" "today" "I", Cond.methodLink RX1 23 yX1_isBusinessDay, Cond.instanceMethod yX1_isBusinessDay, Cond.selects RX1 yX1_isBusinessDay yX1_isBusinessDay, Cond.code yX1_isBusinessDay cX1_isBusinessDay 3 (some .boolean)]
def wsX5_bookGain_r3 : List Cond := [Cond.fieldLink RX1 9 "Forwardroll$Calendar" "holidays" "[Z", Cond.static yX5_isIndex, Cond.code yX5_isIndex cX5_isIndex 2 (some .boolean), Cond.methodLink RX5 132 yX3_book, Cond.instanceMethod yX3_book, Cond.selects RX3 yX3_book yX3_book, Cond.initialized RX3, Cond.code yX3_book cX3_book 6 none, Cond.fieldLink RX3 18 "Forwardroll$Customer" "netAmounts" "[LForwardroll$Amounts;", Cond.classLink RX3 16 RX0, Cond.instantiable RX0 1, Cond.initialized RX0, Cond.instanceMethod yX0_init, Cond.code yX0_init cX0_init 1 none, Cond.methodLink RX0 3 objectInit, Cond.instanceMethod objectInit, Cond.code objectInit ⟨#[0xb1]⟩ 1 none, Cond.arrayClass .long, Cond.fieldLink RX0 9 "Forwardroll$Amounts" "byMoney" "[J", Cond.methodLink RX3 31 yX0_add, Cond.instanceMethod yX0_add, Cond.selects RX0 yX0_add yX0_add, Cond.code yX0_add cX0_add 4 none]
def wsX5_bookGain : List Cond := .code yX5_bookGain cX5_bookGain 4 (some .long) :: ((wsX5_bookGain_r1 ++ (wsX5_bookGain_r2 ++ wsX5_bookGain_r3)) ++ wsX50 ++ wsX10 ++ wsX40 ++ wsX20 ++ wsX30 ++ wsX00)
def wsX5_roll_r1 : List Cond := [Cond.classLink RX5 57 "java/lang/IllegalStateException", Cond.initialized "java/lang/IllegalStateException", Cond.fieldLink RX5 12 "Forwardroll" "calendar" "LForwardroll$Calendar;", Cond.methodLink RX5 99 yX5_dealNumbered, Cond.instanceMethod yX5_dealNumbered, Cond.selects RX5 yX5_dealNumbered yX5_dealNumbered, Cond.initialized RX5, Cond.code yX5_dealNumbered cX5_dealNumbered 3 (some (.object "Forwardroll$Deal")), Cond.classLink RX5 200 "java/lang/IndexOutOfBoundsException", Cond.initialized "java/lang/IndexOutOfBoundsException", Cond.fieldLink RX5 34 "Forwardroll" "deals" "[LForwardroll$Deal;", Cond.methodLink RX5 84 yX5_isIndex, Cond.static yX5_isIndex, Cond.code yX5_isIndex cX5_isIndex 2 (some .boolean), Cond.methodLink RX5 43 yX5_requireRange, Cond.static yX5_requireRange, Cond.code yX5_requireRange cX5_requireRange 3 none, Cond.classLink RX5 209 "java/lang/IllegalArgumentException", Cond.initialized "java/lang/IllegalArgumentException", Cond.methodLink RX5 136 yX5_requireLeft, Cond.static yX5_requireLeft, Cond.code yX5_requireLeft cX5_requireLeft 1 none, Cond.methodLink RX5 145 yX5_bookGain, Cond.instanceMethod yX5_bookGain]
def wsX5_roll_r2 : List Cond := [Cond.selects RX5 yX5_bookGain yX5_bookGain, Cond.code yX5_bookGain cX5_bookGain 4 (some .long), Cond.methodLink RX5 168 yX4_marketGain, Cond.instanceMethod yX4_marketGain, Cond.selects RX4 yX4_marketGain yX4_marketGain, Cond.initialized RX4, Cond.code yX4_marketGain cX4_marketGain 2 (some .long), Cond.methodLink RX4 42 yX4_marketRate, Cond.instanceMethod yX4_marketRate, Cond.selects RX4 yX4_marketRate yX4_marketRate, Cond.code yX4_marketRate cX4_marketRate 2 (some .int), Cond.fieldLink RX4 15 "Forwardroll$Deal" "currency" "LForwardroll$Currency;", Cond.fieldLink RX4 33 "Forwardroll$Deal" "lastDay" "I", Cond.methodLink RX4 36 yX2_forwardRate, Cond.instanceMethod yX2_forwardRate, Cond.selects RX2 yX2_forwardRate yX2_forwardRate, Cond.initialized RX2, Cond.code yX2_forwardRate cX2_forwardRate 2 (some .int), Cond.fieldLink RX2 9 "Forwardroll$Currency" "spotRate" "I", Cond.methodLink RX2 18 yX2_laterRate, Cond.instanceMethod yX2_laterRate, Cond.selects RX2 yX2_laterRate yX2_laterRate, Cond.code yX2_laterRate cX2_laterRate 3 (some .int), Cond.fieldLink RX2 22 "Forwardroll$Currency" "points" "I"]
def wsX5_roll_r3 : List Cond := [Cond.methodLink RX2 25 Lib.Math.max.name, Cond.static Lib.Math.max.name, Cond.initialized "java/lang/Math", Cond.code Lib.Math.max.name Lib.Math.max.code 2 (some .int), Cond.methodLink RX4 45 yX4_gainAt, Cond.instanceMethod yX4_gainAt, Cond.selects RX4 yX4_gainAt yX4_gainAt, Cond.code yX4_gainAt cX4_gainAt 4 (some .long), Cond.fieldLink RX4 23 "Forwardroll$Deal" "amountLeft" "I", Cond.fieldLink RX4 27 "Forwardroll$Deal" "agreedRate" "I", Cond.fieldLink RX4 19 "Forwardroll$Deal" "buys" "Z", Cond.static yX5_homeAmount, Cond.code yX5_homeAmount cX5_homeAmount 2 (some .long), Cond.constantLong RX5 227 (10000), Cond.methodLink RX5 113 yX1_nextBusinessDay, Cond.instanceMethod yX1_nextBusinessDay, Cond.selects RX1 yX1_nextBusinessDay yX1_nextBusinessDay, Cond.initialized RX1, Cond.code yX1_nextBusinessDay cX1_nextBusinessDay 2 (some .int), Cond.fieldLink RX1 19 "Forwardroll$Calendar" "today" "I", Cond.methodLink RX1 23 yX1_isBusinessDay, Cond.instanceMethod yX1_isBusinessDay, Cond.selects RX1 yX1_isBusinessDay yX1_isBusinessDay, Cond.code yX1_isBusinessDay cX1_isBusinessDay 3 (some .boolean)]
def wsX5_roll_r4 : List Cond := [Cond.fieldLink RX1 9 "Forwardroll$Calendar" "holidays" "[Z", Cond.methodLink RX5 132 yX3_book, Cond.instanceMethod yX3_book, Cond.selects RX3 yX3_book yX3_book, Cond.initialized RX3, Cond.code yX3_book cX3_book 6 none, Cond.fieldLink RX3 18 "Forwardroll$Customer" "netAmounts" "[LForwardroll$Amounts;", Cond.classLink RX3 16 RX0, Cond.instantiable RX0 1, Cond.initialized RX0, Cond.instanceMethod yX0_init, Cond.code yX0_init cX0_init 1 none, Cond.methodLink RX0 3 objectInit, Cond.instanceMethod objectInit, Cond.code objectInit ⟨#[0xb1]⟩ 1 none, Cond.arrayClass .long, Cond.fieldLink RX0 9 "Forwardroll$Amounts" "byMoney" "[J", Cond.methodLink RX3 31 yX0_add, Cond.instanceMethod yX0_add, Cond.selects RX0 yX0_add yX0_add, Cond.code yX0_add cX0_add 4 none, Cond.methodLink RX5 149 yX4_moveWindow, Cond.instanceMethod yX4_moveWindow, Cond.selects RX4 yX4_moveWindow yX4_moveWindow]
def wsX5_roll_r5 : List Cond := [Cond.code yX4_moveWindow cX4_moveWindow 2 none, Cond.fieldLink RX4 30 "Forwardroll$Deal" "firstDay" "I", Cond.methodLink RX5 152 yX4_marketRate, Cond.methodLink RX5 158 yX2_laterRate]
def wsX5_roll : List Cond := .code yX5_roll cX5_roll 5 (some .int) :: ((wsX5_roll_r1 ++ (wsX5_roll_r2 ++ (wsX5_roll_r3 ++ (wsX5_roll_r4 ++ wsX5_roll_r5)))) ++ wsX40 ++ wsX50 ++ wsX10 ++ wsX20 ++ wsX30 ++ wsX00 ++ (vx_atS RX5 61 "java/lang/IllegalStateException" ["java/lang/RuntimeException", "java/lang/Exception"]).filter goodWord ++ (vx_atS RX5 204 "java/lang/IndexOutOfBoundsException" ["java/lang/RuntimeException", "java/lang/Exception"]).filter goodWord ++ (vx_atS RX5 213 "java/lang/IllegalArgumentException" ["java/lang/RuntimeException", "java/lang/Exception"]).filter goodWord)
def wsX5_endDeal_r1 : List Cond := [Cond.methodLink RX5 145 yX5_bookGain, Cond.instanceMethod yX5_bookGain, Cond.selects RX5 yX5_bookGain yX5_bookGain, Cond.initialized RX5, Cond.code yX5_bookGain cX5_bookGain 4 (some .long), Cond.fieldLink RX5 12 "Forwardroll" "calendar" "LForwardroll$Calendar;", Cond.methodLink RX5 168 yX4_marketGain, Cond.instanceMethod yX4_marketGain, Cond.selects RX4 yX4_marketGain yX4_marketGain, Cond.initialized RX4, Cond.code yX4_marketGain cX4_marketGain 2 (some .long), Cond.methodLink RX4 42 yX4_marketRate, Cond.instanceMethod yX4_marketRate, Cond.selects RX4 yX4_marketRate yX4_marketRate, Cond.code yX4_marketRate cX4_marketRate 2 (some .int), Cond.fieldLink RX4 15 "Forwardroll$Deal" "currency" "LForwardroll$Currency;", Cond.fieldLink RX4 33 "Forwardroll$Deal" "lastDay" "I", Cond.methodLink RX4 36 yX2_forwardRate, Cond.instanceMethod yX2_forwardRate, Cond.selects RX2 yX2_forwardRate yX2_forwardRate, Cond.initialized RX2, Cond.code yX2_forwardRate cX2_forwardRate 2 (some .int), Cond.fieldLink RX2 9 "Forwardroll$Currency" "spotRate" "I", Cond.methodLink RX2 18 yX2_laterRate]
def wsX5_endDeal_r2 : List Cond := [Cond.instanceMethod yX2_laterRate, Cond.selects RX2 yX2_laterRate yX2_laterRate, Cond.code yX2_laterRate cX2_laterRate 3 (some .int), Cond.fieldLink RX2 22 "Forwardroll$Currency" "points" "I", Cond.methodLink RX2 25 Lib.Math.max.name, Cond.static Lib.Math.max.name, Cond.initialized "java/lang/Math", Cond.code Lib.Math.max.name Lib.Math.max.code 2 (some .int), Cond.methodLink RX4 45 yX4_gainAt, Cond.instanceMethod yX4_gainAt, Cond.selects RX4 yX4_gainAt yX4_gainAt, Cond.code yX4_gainAt cX4_gainAt 4 (some .long), Cond.fieldLink RX4 23 "Forwardroll$Deal" "amountLeft" "I", Cond.fieldLink RX4 27 "Forwardroll$Deal" "agreedRate" "I", Cond.fieldLink RX4 19 "Forwardroll$Deal" "buys" "Z", Cond.static yX5_homeAmount, Cond.code yX5_homeAmount cX5_homeAmount 2 (some .long), Cond.constantLong RX5 227 (10000), Cond.methodLink RX5 113 yX1_nextBusinessDay, Cond.instanceMethod yX1_nextBusinessDay, Cond.selects RX1 yX1_nextBusinessDay yX1_nextBusinessDay, Cond.initialized RX1, Cond.code yX1_nextBusinessDay cX1_nextBusinessDay 2 (some .int), Cond.fieldLink RX1 19 "Forwardroll$Calendar" "today" "I"]
def wsX5_endDeal_r3 : List Cond := [Cond.methodLink RX1 23 yX1_isBusinessDay, Cond.instanceMethod yX1_isBusinessDay, Cond.selects RX1 yX1_isBusinessDay yX1_isBusinessDay, Cond.code yX1_isBusinessDay cX1_isBusinessDay 3 (some .boolean), Cond.fieldLink RX1 9 "Forwardroll$Calendar" "holidays" "[Z", Cond.static yX5_isIndex, Cond.code yX5_isIndex cX5_isIndex 2 (some .boolean), Cond.methodLink RX5 132 yX3_book, Cond.instanceMethod yX3_book, Cond.selects RX3 yX3_book yX3_book, Cond.initialized RX3, Cond.code yX3_book cX3_book 6 none, Cond.fieldLink RX3 18 "Forwardroll$Customer" "netAmounts" "[LForwardroll$Amounts;", Cond.classLink RX3 16 RX0, Cond.instantiable RX0 1, Cond.initialized RX0, Cond.instanceMethod yX0_init, Cond.code yX0_init cX0_init 1 none, Cond.methodLink RX0 3 objectInit, Cond.instanceMethod objectInit, Cond.code objectInit ⟨#[0xb1]⟩ 1 none, Cond.arrayClass .long, Cond.fieldLink RX0 9 "Forwardroll$Amounts" "byMoney" "[J", Cond.methodLink RX3 31 yX0_add]
def wsX5_endDeal_r4 : List Cond := [Cond.instanceMethod yX0_add, Cond.selects RX0 yX0_add yX0_add, Cond.code yX0_add cX0_add 4 none]
def wsX5_endDeal : List Cond := .code yX5_endDeal cX5_endDeal 4 (some .long) :: ((wsX5_endDeal_r1 ++ (wsX5_endDeal_r2 ++ (wsX5_endDeal_r3 ++ wsX5_endDeal_r4))) ++ wsX40 ++ wsX50 ++ wsX10 ++ wsX20 ++ wsX30 ++ wsX00)
def wsX5_closeOut_r1 : List Cond := [Cond.methodLink RX5 99 yX5_dealNumbered, Cond.instanceMethod yX5_dealNumbered, Cond.selects RX5 yX5_dealNumbered yX5_dealNumbered, Cond.initialized RX5, Cond.code yX5_dealNumbered cX5_dealNumbered 3 (some (.object "Forwardroll$Deal")), Cond.classLink RX5 200 "java/lang/IndexOutOfBoundsException", Cond.initialized "java/lang/IndexOutOfBoundsException", Cond.fieldLink RX5 34 "Forwardroll" "deals" "[LForwardroll$Deal;", Cond.methodLink RX5 84 yX5_isIndex, Cond.static yX5_isIndex, Cond.code yX5_isIndex cX5_isIndex 2 (some .boolean), Cond.methodLink RX5 136 yX5_requireLeft, Cond.static yX5_requireLeft, Cond.code yX5_requireLeft cX5_requireLeft 1 none, Cond.classLink RX5 57 "java/lang/IllegalStateException", Cond.initialized "java/lang/IllegalStateException", Cond.methodLink RX5 162 yX5_endDeal, Cond.instanceMethod yX5_endDeal, Cond.selects RX5 yX5_endDeal yX5_endDeal, Cond.code yX5_endDeal cX5_endDeal 4 (some .long), Cond.methodLink RX5 145 yX5_bookGain, Cond.instanceMethod yX5_bookGain, Cond.selects RX5 yX5_bookGain yX5_bookGain, Cond.code yX5_bookGain cX5_bookGain 4 (some .long)]
def wsX5_closeOut_r2 : List Cond := [Cond.fieldLink RX5 12 "Forwardroll" "calendar" "LForwardroll$Calendar;", Cond.methodLink RX5 168 yX4_marketGain, Cond.instanceMethod yX4_marketGain, Cond.selects RX4 yX4_marketGain yX4_marketGain, Cond.initialized RX4, Cond.code yX4_marketGain cX4_marketGain 2 (some .long), Cond.methodLink RX4 42 yX4_marketRate, Cond.instanceMethod yX4_marketRate, Cond.selects RX4 yX4_marketRate yX4_marketRate, Cond.code yX4_marketRate cX4_marketRate 2 (some .int), Cond.fieldLink RX4 15 "Forwardroll$Deal" "currency" "LForwardroll$Currency;", Cond.fieldLink RX4 33 "Forwardroll$Deal" "lastDay" "I", Cond.methodLink RX4 36 yX2_forwardRate, Cond.instanceMethod yX2_forwardRate, Cond.selects RX2 yX2_forwardRate yX2_forwardRate, Cond.initialized RX2, Cond.code yX2_forwardRate cX2_forwardRate 2 (some .int), Cond.fieldLink RX2 9 "Forwardroll$Currency" "spotRate" "I", Cond.methodLink RX2 18 yX2_laterRate, Cond.instanceMethod yX2_laterRate, Cond.selects RX2 yX2_laterRate yX2_laterRate, Cond.code yX2_laterRate cX2_laterRate 3 (some .int), Cond.fieldLink RX2 22 "Forwardroll$Currency" "points" "I", Cond.methodLink RX2 25 Lib.Math.max.name]
def wsX5_closeOut_r3 : List Cond := [Cond.static Lib.Math.max.name, Cond.initialized "java/lang/Math", Cond.code Lib.Math.max.name Lib.Math.max.code 2 (some .int), Cond.methodLink RX4 45 yX4_gainAt, Cond.instanceMethod yX4_gainAt, Cond.selects RX4 yX4_gainAt yX4_gainAt, Cond.code yX4_gainAt cX4_gainAt 4 (some .long), Cond.fieldLink RX4 23 "Forwardroll$Deal" "amountLeft" "I", Cond.fieldLink RX4 27 "Forwardroll$Deal" "agreedRate" "I", Cond.fieldLink RX4 19 "Forwardroll$Deal" "buys" "Z", Cond.static yX5_homeAmount, Cond.code yX5_homeAmount cX5_homeAmount 2 (some .long), Cond.constantLong RX5 227 (10000), Cond.methodLink RX5 113 yX1_nextBusinessDay, Cond.instanceMethod yX1_nextBusinessDay, Cond.selects RX1 yX1_nextBusinessDay yX1_nextBusinessDay, Cond.initialized RX1, Cond.code yX1_nextBusinessDay cX1_nextBusinessDay 2 (some .int), Cond.fieldLink RX1 19 "Forwardroll$Calendar" "today" "I", Cond.methodLink RX1 23 yX1_isBusinessDay, Cond.instanceMethod yX1_isBusinessDay, Cond.selects RX1 yX1_isBusinessDay yX1_isBusinessDay, Cond.code yX1_isBusinessDay cX1_isBusinessDay 3 (some .boolean), Cond.fieldLink RX1 9 "Forwardroll$Calendar" "holidays" "[Z"]
def wsX5_closeOut_r4 : List Cond := [Cond.methodLink RX5 132 yX3_book, Cond.instanceMethod yX3_book, Cond.selects RX3 yX3_book yX3_book, Cond.initialized RX3, Cond.code yX3_book cX3_book 6 none, Cond.fieldLink RX3 18 "Forwardroll$Customer" "netAmounts" "[LForwardroll$Amounts;", Cond.classLink RX3 16 RX0, Cond.instantiable RX0 1, Cond.initialized RX0, Cond.instanceMethod yX0_init, Cond.code yX0_init cX0_init 1 none, Cond.methodLink RX0 3 objectInit, Cond.instanceMethod objectInit, Cond.code objectInit ⟨#[0xb1]⟩ 1 none, Cond.arrayClass .long, Cond.fieldLink RX0 9 "Forwardroll$Amounts" "byMoney" "[J", Cond.methodLink RX3 31 yX0_add, Cond.instanceMethod yX0_add, Cond.selects RX0 yX0_add yX0_add, Cond.code yX0_add cX0_add 4 none]
def wsX5_closeOut : List Cond := .code yX5_closeOut cX5_closeOut 3 (some .long) :: ((wsX5_closeOut_r1 ++ (wsX5_closeOut_r2 ++ (wsX5_closeOut_r3 ++ wsX5_closeOut_r4))) ++ wsX50 ++ wsX40 ++ wsX10 ++ wsX20 ++ wsX30 ++ wsX00 ++ (vx_atS RX5 204 "java/lang/IndexOutOfBoundsException" ["java/lang/RuntimeException", "java/lang/Exception"]).filter goodWord ++ (vx_atS RX5 61 "java/lang/IllegalStateException" ["java/lang/RuntimeException", "java/lang/Exception"]).filter goodWord)
def wsX5_left : List Cond := .code yX5_left cX5_left 2 (some .int) :: ([.methodLink RX5 99 yX5_dealNumbered, .instanceMethod yX5_dealNumbered, .selects RX5 yX5_dealNumbered yX5_dealNumbered, .initialized RX5, .code yX5_dealNumbered cX5_dealNumbered 3 (some (.object "Forwardroll$Deal")), .classLink RX5 200 "java/lang/IndexOutOfBoundsException", .initialized "java/lang/IndexOutOfBoundsException", .fieldLink RX5 34 "Forwardroll" "deals" "[LForwardroll$Deal;", .methodLink RX5 84 yX5_isIndex, .static yX5_isIndex, .code yX5_isIndex cX5_isIndex 2 (some .boolean)] ++ wsX40 ++ wsX50 ++ (vx_atS RX5 204 "java/lang/IndexOutOfBoundsException" ["java/lang/RuntimeException", "java/lang/Exception"]).filter goodWord)
def wsX5_rate : List Cond := .code yX5_rate cX5_rate 2 (some .int) :: ([.methodLink RX5 99 yX5_dealNumbered, .instanceMethod yX5_dealNumbered, .selects RX5 yX5_dealNumbered yX5_dealNumbered, .initialized RX5, .code yX5_dealNumbered cX5_dealNumbered 3 (some (.object "Forwardroll$Deal")), .classLink RX5 200 "java/lang/IndexOutOfBoundsException", .initialized "java/lang/IndexOutOfBoundsException", .fieldLink RX5 34 "Forwardroll" "deals" "[LForwardroll$Deal;", .methodLink RX5 84 yX5_isIndex, .static yX5_isIndex, .code yX5_isIndex cX5_isIndex 2 (some .boolean)] ++ wsX40 ++ wsX50 ++ (vx_atS RX5 204 "java/lang/IndexOutOfBoundsException" ["java/lang/RuntimeException", "java/lang/Exception"]).filter goodWord)
def wsX5_window : List Cond := .code yX5_window cX5_window 3 (some .int) :: ([.methodLink RX5 99 yX5_dealNumbered, .instanceMethod yX5_dealNumbered, .selects RX5 yX5_dealNumbered yX5_dealNumbered, .initialized RX5, .code yX5_dealNumbered cX5_dealNumbered 3 (some (.object "Forwardroll$Deal")), .classLink RX5 200 "java/lang/IndexOutOfBoundsException", .initialized "java/lang/IndexOutOfBoundsException", .fieldLink RX5 34 "Forwardroll" "deals" "[LForwardroll$Deal;", .methodLink RX5 84 yX5_isIndex, .static yX5_isIndex, .code yX5_isIndex cX5_isIndex 2 (some .boolean)] ++ wsX40 ++ wsX50 ++ (vx_atS RX5 204 "java/lang/IndexOutOfBoundsException" ["java/lang/RuntimeException", "java/lang/Exception"]).filter goodWord)
def wsX5_gain_r1 : List Cond := [Cond.fieldLink RX5 12 "Forwardroll" "calendar" "LForwardroll$Calendar;", Cond.methodLink RX5 99 yX5_dealNumbered, Cond.instanceMethod yX5_dealNumbered, Cond.selects RX5 yX5_dealNumbered yX5_dealNumbered, Cond.initialized RX5, Cond.code yX5_dealNumbered cX5_dealNumbered 3 (some (.object "Forwardroll$Deal")), Cond.classLink RX5 200 "java/lang/IndexOutOfBoundsException", Cond.initialized "java/lang/IndexOutOfBoundsException", Cond.fieldLink RX5 34 "Forwardroll" "deals" "[LForwardroll$Deal;", Cond.methodLink RX5 84 yX5_isIndex, Cond.static yX5_isIndex, Cond.code yX5_isIndex cX5_isIndex 2 (some .boolean), Cond.methodLink RX5 168 yX4_marketGain, Cond.instanceMethod yX4_marketGain, Cond.selects RX4 yX4_marketGain yX4_marketGain, Cond.initialized RX4, Cond.code yX4_marketGain cX4_marketGain 2 (some .long), Cond.methodLink RX4 42 yX4_marketRate, Cond.instanceMethod yX4_marketRate, Cond.selects RX4 yX4_marketRate yX4_marketRate, Cond.code yX4_marketRate cX4_marketRate 2 (some .int), Cond.fieldLink RX4 15 "Forwardroll$Deal" "currency" "LForwardroll$Currency;", Cond.fieldLink RX4 33 "Forwardroll$Deal" "lastDay" "I", Cond.methodLink RX4 36 yX2_forwardRate]
def wsX5_gain_r2 : List Cond := [Cond.instanceMethod yX2_forwardRate, Cond.selects RX2 yX2_forwardRate yX2_forwardRate, Cond.initialized RX2, Cond.code yX2_forwardRate cX2_forwardRate 2 (some .int), Cond.fieldLink RX2 9 "Forwardroll$Currency" "spotRate" "I", Cond.methodLink RX2 18 yX2_laterRate, Cond.instanceMethod yX2_laterRate, Cond.selects RX2 yX2_laterRate yX2_laterRate, Cond.code yX2_laterRate cX2_laterRate 3 (some .int), Cond.fieldLink RX2 22 "Forwardroll$Currency" "points" "I", Cond.methodLink RX2 25 Lib.Math.max.name, Cond.static Lib.Math.max.name, Cond.initialized "java/lang/Math", Cond.code Lib.Math.max.name Lib.Math.max.code 2 (some .int), Cond.methodLink RX4 45 yX4_gainAt, Cond.instanceMethod yX4_gainAt, Cond.selects RX4 yX4_gainAt yX4_gainAt, Cond.code yX4_gainAt cX4_gainAt 4 (some .long), Cond.fieldLink RX4 23 "Forwardroll$Deal" "amountLeft" "I", Cond.fieldLink RX4 27 "Forwardroll$Deal" "agreedRate" "I", Cond.fieldLink RX4 19 "Forwardroll$Deal" "buys" "Z", Cond.static yX5_homeAmount, Cond.code yX5_homeAmount cX5_homeAmount 2 (some .long), Cond.constantLong RX5 227 (10000)]
def wsX5_gain : List Cond := .code yX5_gain cX5_gain 2 (some .long) :: ((wsX5_gain_r1 ++ wsX5_gain_r2) ++ wsX50 ++ wsX10 ++ wsX40 ++ wsX20 ++ (vx_atS RX5 204 "java/lang/IndexOutOfBoundsException" ["java/lang/RuntimeException", "java/lang/Exception"]).filter goodWord)
def wsX5_exposure_r1 : List Cond := [Cond.methodLink RX5 68 yX5_customerNumbered, Cond.instanceMethod yX5_customerNumbered, Cond.selects RX5 yX5_customerNumbered yX5_customerNumbered, Cond.initialized RX5, Cond.code yX5_customerNumbered cX5_customerNumbered 3 (some (.object "Forwardroll$Customer")), Cond.classLink RX5 200 "java/lang/IndexOutOfBoundsException", Cond.initialized "java/lang/IndexOutOfBoundsException", Cond.fieldLink RX5 27 "Forwardroll" "customers" "[LForwardroll$Customer;", Cond.methodLink RX5 84 yX5_isIndex, Cond.static yX5_isIndex, Cond.code yX5_isIndex cX5_isIndex 2 (some .boolean), Cond.methodLink RX5 172 yX5_lossOfAll, Cond.instanceMethod yX5_lossOfAll, Cond.selects RX5 yX5_lossOfAll yX5_lossOfAll, Cond.code yX5_lossOfAll cX5_lossOfAll 9 (some .long), Cond.fieldLink RX5 34 "Forwardroll" "deals" "[LForwardroll$Deal;", Cond.fieldLink RX5 12 "Forwardroll" "calendar" "LForwardroll$Calendar;", Cond.methodLink RX5 219 yX4_shiftedLoss, Cond.instanceMethod yX4_shiftedLoss, Cond.selects RX4 yX4_shiftedLoss yX4_shiftedLoss, Cond.initialized RX4, Cond.code yX4_shiftedLoss cX4_shiftedLoss 4 (some .long), Cond.methodLink RX4 49 Lib.Math.max.name, Cond.static Lib.Math.max.name]
def wsX5_exposure_r2 : List Cond := [Cond.initialized "java/lang/Math", Cond.code Lib.Math.max.name Lib.Math.max.code 2 (some .int), Cond.methodLink RX4 42 yX4_marketRate, Cond.instanceMethod yX4_marketRate, Cond.selects RX4 yX4_marketRate yX4_marketRate, Cond.code yX4_marketRate cX4_marketRate 2 (some .int), Cond.fieldLink RX4 15 "Forwardroll$Deal" "currency" "LForwardroll$Currency;", Cond.fieldLink RX4 33 "Forwardroll$Deal" "lastDay" "I", Cond.methodLink RX4 36 yX2_forwardRate, Cond.instanceMethod yX2_forwardRate, Cond.selects RX2 yX2_forwardRate yX2_forwardRate, Cond.initialized RX2, Cond.code yX2_forwardRate cX2_forwardRate 2 (some .int), Cond.fieldLink RX2 9 "Forwardroll$Currency" "spotRate" "I", Cond.methodLink RX2 18 yX2_laterRate, Cond.instanceMethod yX2_laterRate, Cond.selects RX2 yX2_laterRate yX2_laterRate, Cond.code yX2_laterRate cX2_laterRate 3 (some .int), Cond.fieldLink RX2 22 "Forwardroll$Currency" "points" "I", Cond.methodLink RX2 25 Lib.Math.max.name, Cond.methodLink RX4 45 yX4_gainAt, Cond.instanceMethod yX4_gainAt, Cond.selects RX4 yX4_gainAt yX4_gainAt, Cond.code yX4_gainAt cX4_gainAt 4 (some .long)]
def wsX5_exposure_r3 : List Cond := [Cond.fieldLink RX4 23 "Forwardroll$Deal" "amountLeft" "I", Cond.fieldLink RX4 27 "Forwardroll$Deal" "agreedRate" "I", Cond.fieldLink RX4 19 "Forwardroll$Deal" "buys" "Z", Cond.static yX5_homeAmount, Cond.code yX5_homeAmount cX5_homeAmount 2 (some .long), Cond.constantLong RX5 227 (10000), Cond.methodLink RX5 176 yX5_worseLoss, Cond.static yX5_worseLoss, Cond.code yX5_worseLoss cX5_worseLoss 4 (some .long), Cond.methodLink RX5 222 Lib.MathLoose.max_long.x, Cond.static Lib.MathLoose.max_long.x, Cond.code Lib.MathLoose.max_long.x Lib.MathLoose.max_long.code 4 (some .long)]
def wsX5_exposure : List Cond := .code yX5_exposure cX5_exposure 3 (some .long) :: ((wsX5_exposure_r1 ++ (wsX5_exposure_r2 ++ wsX5_exposure_r3)) ++ wsX50 ++ wsX40 ++ wsX10 ++ wsX20 ++ (vx_atS RX5 204 "java/lang/IndexOutOfBoundsException" ["java/lang/RuntimeException", "java/lang/Exception"]).filter goodWord)
def wsX5_settlementDay : List Cond := .code yX5_settlementDay cX5_settlementDay 1 (some .int) :: ([.fieldLink RX5 12 "Forwardroll" "calendar" "LForwardroll$Calendar;", .methodLink RX5 113 yX1_nextBusinessDay, .instanceMethod yX1_nextBusinessDay, .selects RX1 yX1_nextBusinessDay yX1_nextBusinessDay, .initialized RX1, .code yX1_nextBusinessDay cX1_nextBusinessDay 2 (some .int), .fieldLink RX1 19 "Forwardroll$Calendar" "today" "I", .methodLink RX1 23 yX1_isBusinessDay, .instanceMethod yX1_isBusinessDay, .selects RX1 yX1_isBusinessDay yX1_isBusinessDay, .code yX1_isBusinessDay cX1_isBusinessDay 3 (some .boolean), .fieldLink RX1 9 "Forwardroll$Calendar" "holidays" "[Z", .static yX5_isIndex, .initialized RX5, .code yX5_isIndex cX5_isIndex 2 (some .boolean)] ++ wsX50 ++ wsX10)
def wsX5_due_r1 : List Cond := [Cond.fieldLink RX5 12 "Forwardroll" "calendar" "LForwardroll$Calendar;", Cond.methodLink RX5 68 yX5_customerNumbered, Cond.instanceMethod yX5_customerNumbered, Cond.selects RX5 yX5_customerNumbered yX5_customerNumbered, Cond.initialized RX5, Cond.code yX5_customerNumbered cX5_customerNumbered 3 (some (.object "Forwardroll$Customer")), Cond.classLink RX5 200 "java/lang/IndexOutOfBoundsException", Cond.initialized "java/lang/IndexOutOfBoundsException", Cond.fieldLink RX5 27 "Forwardroll" "customers" "[LForwardroll$Customer;", Cond.methodLink RX5 84 yX5_isIndex, Cond.static yX5_isIndex, Cond.code yX5_isIndex cX5_isIndex 2 (some .boolean), Cond.methodLink RX5 43 yX5_requireRange, Cond.static yX5_requireRange, Cond.code yX5_requireRange cX5_requireRange 3 none, Cond.classLink RX5 209 "java/lang/IllegalArgumentException", Cond.initialized "java/lang/IllegalArgumentException", Cond.methodLink RX5 180 yX3_netAmount, Cond.instanceMethod yX3_netAmount, Cond.selects RX3 yX3_netAmount yX3_netAmount, Cond.initialized RX3, Cond.code yX3_netAmount cX3_netAmount 4 (some .long), Cond.methodLink RX3 35 yX3_netAmountsOf, Cond.instanceMethod yX3_netAmountsOf]
def wsX5_due_r2 : List Cond := [Cond.selects RX3 yX3_netAmountsOf yX3_netAmountsOf, Cond.code yX3_netAmountsOf cX3_netAmountsOf 2 (some (.object "Forwardroll$Amounts")), Cond.fieldLink RX3 18 "Forwardroll$Customer" "netAmounts" "[LForwardroll$Amounts;", Cond.methodLink RX3 39 yX0_amountOf, Cond.instanceMethod yX0_amountOf, Cond.selects RX0 yX0_amountOf yX0_amountOf, Cond.initialized RX0, Cond.code yX0_amountOf cX0_amountOf 2 (some .long), Cond.fieldLink RX0 9 "Forwardroll$Amounts" "byMoney" "[J"]
def wsX5_due : List Cond := .code yX5_due cX5_due 5 (some .long) :: ((wsX5_due_r1 ++ wsX5_due_r2) ++ wsX50 ++ wsX10 ++ wsX30 ++ wsX00 ++ (vx_atS RX5 204 "java/lang/IndexOutOfBoundsException" ["java/lang/RuntimeException", "java/lang/Exception"]).filter goodWord ++ (vx_atS RX5 213 "java/lang/IllegalArgumentException" ["java/lang/RuntimeException", "java/lang/Exception"]).filter goodWord)
def wsX5_balance : List Cond := .code yX5_balance cX5_balance 4 (some .long) :: ([.methodLink RX5 68 yX5_customerNumbered, .instanceMethod yX5_customerNumbered, .selects RX5 yX5_customerNumbered yX5_customerNumbered, .initialized RX5, .code yX5_customerNumbered cX5_customerNumbered 3 (some (.object "Forwardroll$Customer")), .classLink RX5 200 "java/lang/IndexOutOfBoundsException", .initialized "java/lang/IndexOutOfBoundsException", .fieldLink RX5 27 "Forwardroll" "customers" "[LForwardroll$Customer;", .methodLink RX5 84 yX5_isIndex, .static yX5_isIndex, .code yX5_isIndex cX5_isIndex 2 (some .boolean), .methodLink RX5 43 yX5_requireRange, .static yX5_requireRange, .code yX5_requireRange cX5_requireRange 3 none, .classLink RX5 209 "java/lang/IllegalArgumentException", .initialized "java/lang/IllegalArgumentException", .methodLink RX5 187 yX0_amountOf, .instanceMethod yX0_amountOf, .selects RX0 yX0_amountOf yX0_amountOf, .initialized RX0, .code yX0_amountOf cX0_amountOf 2 (some .long), .fieldLink RX0 9 "Forwardroll$Amounts" "byMoney" "[J"] ++ wsX30 ++ wsX50 ++ wsX00 ++ (vx_atS RX5 204 "java/lang/IndexOutOfBoundsException" ["java/lang/RuntimeException", "java/lang/Exception"]).filter goodWord ++ (vx_atS RX5 213 "java/lang/IllegalArgumentException" ["java/lang/RuntimeException", "java/lang/Exception"]).filter goodWord)
def wsX5_endDealsOfToday_r1 : List Cond := [Cond.fieldLink RX5 34 "Forwardroll" "deals" "[LForwardroll$Deal;", Cond.fieldLink RX5 12 "Forwardroll" "calendar" "LForwardroll$Calendar;", Cond.methodLink RX5 162 yX5_endDeal, Cond.instanceMethod yX5_endDeal, Cond.selects RX5 yX5_endDeal yX5_endDeal, Cond.initialized RX5, Cond.code yX5_endDeal cX5_endDeal 4 (some .long), Cond.methodLink RX5 145 yX5_bookGain, Cond.instanceMethod yX5_bookGain, Cond.selects RX5 yX5_bookGain yX5_bookGain, Cond.code yX5_bookGain cX5_bookGain 4 (some .long), Cond.methodLink RX5 168 yX4_marketGain, Cond.instanceMethod yX4_marketGain, Cond.selects RX4 yX4_marketGain yX4_marketGain, Cond.initialized RX4, Cond.code yX4_marketGain cX4_marketGain 2 (some .long), Cond.methodLink RX4 42 yX4_marketRate, Cond.instanceMethod yX4_marketRate, Cond.selects RX4 yX4_marketRate yX4_marketRate, Cond.code yX4_marketRate cX4_marketRate 2 (some .int), Cond.fieldLink RX4 15 "Forwardroll$Deal" "currency" "LForwardroll$Currency;", Cond.fieldLink RX4 33 "Forwardroll$Deal" "lastDay" "I", Cond.methodLink RX4 36 yX2_forwardRate, Cond.instanceMethod yX2_forwardRate]
def wsX5_endDealsOfToday_r2 : List Cond := [Cond.selects RX2 yX2_forwardRate yX2_forwardRate, Cond.initialized RX2, Cond.code yX2_forwardRate cX2_forwardRate 2 (some .int), Cond.fieldLink RX2 9 "Forwardroll$Currency" "spotRate" "I", Cond.methodLink RX2 18 yX2_laterRate, Cond.instanceMethod yX2_laterRate, Cond.selects RX2 yX2_laterRate yX2_laterRate, Cond.code yX2_laterRate cX2_laterRate 3 (some .int), Cond.fieldLink RX2 22 "Forwardroll$Currency" "points" "I", Cond.methodLink RX2 25 Lib.Math.max.name, Cond.static Lib.Math.max.name, Cond.initialized "java/lang/Math", Cond.code Lib.Math.max.name Lib.Math.max.code 2 (some .int), Cond.methodLink RX4 45 yX4_gainAt, Cond.instanceMethod yX4_gainAt, Cond.selects RX4 yX4_gainAt yX4_gainAt, Cond.code yX4_gainAt cX4_gainAt 4 (some .long), Cond.fieldLink RX4 23 "Forwardroll$Deal" "amountLeft" "I", Cond.fieldLink RX4 27 "Forwardroll$Deal" "agreedRate" "I", Cond.fieldLink RX4 19 "Forwardroll$Deal" "buys" "Z", Cond.static yX5_homeAmount, Cond.code yX5_homeAmount cX5_homeAmount 2 (some .long), Cond.constantLong RX5 227 (10000), Cond.methodLink RX5 113 yX1_nextBusinessDay]
def wsX5_endDealsOfToday_r3 : List Cond := [Cond.instanceMethod yX1_nextBusinessDay, Cond.selects RX1 yX1_nextBusinessDay yX1_nextBusinessDay, Cond.initialized RX1, Cond.code yX1_nextBusinessDay cX1_nextBusinessDay 2 (some .int), Cond.fieldLink RX1 19 "Forwardroll$Calendar" "today" "I", Cond.methodLink RX1 23 yX1_isBusinessDay, Cond.instanceMethod yX1_isBusinessDay, Cond.selects RX1 yX1_isBusinessDay yX1_isBusinessDay, Cond.code yX1_isBusinessDay cX1_isBusinessDay 3 (some .boolean), Cond.fieldLink RX1 9 "Forwardroll$Calendar" "holidays" "[Z", Cond.static yX5_isIndex, Cond.code yX5_isIndex cX5_isIndex 2 (some .boolean), Cond.methodLink RX5 132 yX3_book, Cond.instanceMethod yX3_book, Cond.selects RX3 yX3_book yX3_book, Cond.initialized RX3, Cond.code yX3_book cX3_book 6 none, Cond.fieldLink RX3 18 "Forwardroll$Customer" "netAmounts" "[LForwardroll$Amounts;", Cond.classLink RX3 16 RX0, Cond.instantiable RX0 1, Cond.initialized RX0, Cond.instanceMethod yX0_init, Cond.code yX0_init cX0_init 1 none, Cond.methodLink RX0 3 objectInit]
def wsX5_endDealsOfToday_r4 : List Cond := [Cond.instanceMethod objectInit, Cond.code objectInit ⟨#[0xb1]⟩ 1 none, Cond.arrayClass .long, Cond.fieldLink RX0 9 "Forwardroll$Amounts" "byMoney" "[J", Cond.methodLink RX3 31 yX0_add, Cond.instanceMethod yX0_add, Cond.selects RX0 yX0_add yX0_add, Cond.code yX0_add cX0_add 4 none]
def wsX5_endDealsOfToday : List Cond := .code yX5_endDealsOfToday cX5_endDealsOfToday 6 (some .int) :: ((wsX5_endDealsOfToday_r1 ++ (wsX5_endDealsOfToday_r2 ++ (wsX5_endDealsOfToday_r3 ++ wsX5_endDealsOfToday_r4))) ++ wsX50 ++ wsX40 ++ wsX10 ++ wsX20 ++ wsX30 ++ wsX00)
def wsX5_settleAll_r1 : List Cond := [Cond.fieldLink RX5 27 "Forwardroll" "customers" "[LForwardroll$Customer;", Cond.methodLink RX5 216 yX3_settle, Cond.instanceMethod yX3_settle, Cond.selects RX3 yX3_settle yX3_settle, Cond.initialized RX3, Cond.code yX3_settle cX3_settle 3 none, Cond.fieldLink RX3 23 "Forwardroll$Customer" "balances" "LForwardroll$Amounts;", Cond.methodLink RX3 35 yX3_netAmountsOf, Cond.instanceMethod yX3_netAmountsOf, Cond.selects RX3 yX3_netAmountsOf yX3_netAmountsOf, Cond.code yX3_netAmountsOf cX3_netAmountsOf 2 (some (.object "Forwardroll$Amounts")), Cond.fieldLink RX3 18 "Forwardroll$Customer" "netAmounts" "[LForwardroll$Amounts;", Cond.static yX5_isIndex, Cond.initialized RX5, Cond.code yX5_isIndex cX5_isIndex 2 (some .boolean), Cond.methodLink RX3 43 yX0_addAll, Cond.instanceMethod yX0_addAll, Cond.selects RX0 yX0_addAll yX0_addAll, Cond.initialized RX0, Cond.code yX0_addAll cX0_addAll 3 none, Cond.methodLink RX0 19 yX0_amountOf, Cond.instanceMethod yX0_amountOf, Cond.selects RX0 yX0_amountOf yX0_amountOf, Cond.code yX0_amountOf cX0_amountOf 2 (some .long)]
def wsX5_settleAll_r2 : List Cond := [Cond.fieldLink RX0 9 "Forwardroll$Amounts" "byMoney" "[J", Cond.methodLink RX0 23 yX0_add, Cond.instanceMethod yX0_add, Cond.selects RX0 yX0_add yX0_add, Cond.code yX0_add cX0_add 4 none]
def wsX5_settleAll : List Cond := .code yX5_settleAll cX5_settleAll 6 none :: ((wsX5_settleAll_r1 ++ wsX5_settleAll_r2) ++ wsX50 ++ wsX30 ++ wsX00)
def wsX5_pass_r1 : List Cond := [Cond.classLink RX5 57 "java/lang/IllegalStateException", Cond.initialized "java/lang/IllegalStateException", Cond.fieldLink RX5 12 "Forwardroll" "calendar" "LForwardroll$Calendar;", Cond.methodLink RX5 43 yX5_requireRange, Cond.static yX5_requireRange, Cond.initialized RX5, Cond.code yX5_requireRange cX5_requireRange 3 none, Cond.classLink RX5 209 "java/lang/IllegalArgumentException", Cond.initialized "java/lang/IllegalArgumentException", Cond.methodLink RX5 194 yX5_endDealsOfToday, Cond.instanceMethod yX5_endDealsOfToday, Cond.selects RX5 yX5_endDealsOfToday yX5_endDealsOfToday, Cond.code yX5_endDealsOfToday cX5_endDealsOfToday 6 (some .int), Cond.fieldLink RX5 34 "Forwardroll" "deals" "[LForwardroll$Deal;", Cond.methodLink RX5 162 yX5_endDeal, Cond.instanceMethod yX5_endDeal, Cond.selects RX5 yX5_endDeal yX5_endDeal, Cond.code yX5_endDeal cX5_endDeal 4 (some .long), Cond.methodLink RX5 145 yX5_bookGain, Cond.instanceMethod yX5_bookGain, Cond.selects RX5 yX5_bookGain yX5_bookGain, Cond.code yX5_bookGain cX5_bookGain 4 (some .long), Cond.methodLink RX5 168 yX4_marketGain, Cond.instanceMethod yX4_marketGain]
def wsX5_pass_r2 : List Cond := [Cond.selects RX4 yX4_marketGain yX4_marketGain, Cond.initialized RX4, Cond.code yX4_marketGain cX4_marketGain 2 (some .long), Cond.methodLink RX4 42 yX4_marketRate, Cond.instanceMethod yX4_marketRate, Cond.selects RX4 yX4_marketRate yX4_marketRate, Cond.code yX4_marketRate cX4_marketRate 2 (some .int), Cond.fieldLink RX4 15 "Forwardroll$Deal" "currency" "LForwardroll$Currency;", Cond.fieldLink RX4 33 "Forwardroll$Deal" "lastDay" "I", Cond.methodLink RX4 36 yX2_forwardRate, Cond.instanceMethod yX2_forwardRate, Cond.selects RX2 yX2_forwardRate yX2_forwardRate, Cond.initialized RX2, Cond.code yX2_forwardRate cX2_forwardRate 2 (some .int), Cond.fieldLink RX2 9 "Forwardroll$Currency" "spotRate" "I", Cond.methodLink RX2 18 yX2_laterRate, Cond.instanceMethod yX2_laterRate, Cond.selects RX2 yX2_laterRate yX2_laterRate, Cond.code yX2_laterRate cX2_laterRate 3 (some .int), Cond.fieldLink RX2 22 "Forwardroll$Currency" "points" "I", Cond.methodLink RX2 25 Lib.Math.max.name, Cond.static Lib.Math.max.name, Cond.initialized "java/lang/Math", Cond.code Lib.Math.max.name Lib.Math.max.code 2 (some .int)]
def wsX5_pass_r3 : List Cond := [Cond.methodLink RX4 45 yX4_gainAt, Cond.instanceMethod yX4_gainAt, Cond.selects RX4 yX4_gainAt yX4_gainAt, Cond.code yX4_gainAt cX4_gainAt 4 (some .long), Cond.fieldLink RX4 23 "Forwardroll$Deal" "amountLeft" "I", Cond.fieldLink RX4 27 "Forwardroll$Deal" "agreedRate" "I", Cond.fieldLink RX4 19 "Forwardroll$Deal" "buys" "Z", Cond.static yX5_homeAmount, Cond.code yX5_homeAmount cX5_homeAmount 2 (some .long), Cond.constantLong RX5 227 (10000), Cond.methodLink RX5 113 yX1_nextBusinessDay, Cond.instanceMethod yX1_nextBusinessDay, Cond.selects RX1 yX1_nextBusinessDay yX1_nextBusinessDay, Cond.initialized RX1, Cond.code yX1_nextBusinessDay cX1_nextBusinessDay 2 (some .int), Cond.fieldLink RX1 19 "Forwardroll$Calendar" "today" "I", Cond.methodLink RX1 23 yX1_isBusinessDay, Cond.instanceMethod yX1_isBusinessDay, Cond.selects RX1 yX1_isBusinessDay yX1_isBusinessDay, Cond.code yX1_isBusinessDay cX1_isBusinessDay 3 (some .boolean), Cond.fieldLink RX1 9 "Forwardroll$Calendar" "holidays" "[Z", Cond.static yX5_isIndex, Cond.code yX5_isIndex cX5_isIndex 2 (some .boolean), Cond.methodLink RX5 132 yX3_book]
def wsX5_pass_r4 : List Cond := [Cond.instanceMethod yX3_book, Cond.selects RX3 yX3_book yX3_book, Cond.initialized RX3, Cond.code yX3_book cX3_book 6 none, Cond.fieldLink RX3 18 "Forwardroll$Customer" "netAmounts" "[LForwardroll$Amounts;", Cond.classLink RX3 16 RX0, Cond.instantiable RX0 1, Cond.initialized RX0, Cond.instanceMethod yX0_init, Cond.code yX0_init cX0_init 1 none, Cond.methodLink RX0 3 objectInit, Cond.instanceMethod objectInit, Cond.code objectInit ⟨#[0xb1]⟩ 1 none, Cond.arrayClass .long, Cond.fieldLink RX0 9 "Forwardroll$Amounts" "byMoney" "[J", Cond.methodLink RX3 31 yX0_add, Cond.instanceMethod yX0_add, Cond.selects RX0 yX0_add yX0_add, Cond.code yX0_add cX0_add 4 none, Cond.methodLink RX5 197 yX5_settleAll, Cond.instanceMethod yX5_settleAll, Cond.selects RX5 yX5_settleAll yX5_settleAll, Cond.code yX5_settleAll cX5_settleAll 6 none, Cond.fieldLink RX5 27 "Forwardroll" "customers" "[LForwardroll$Customer;"]
def wsX5_pass_r5 : List Cond := [Cond.methodLink RX5 216 yX3_settle, Cond.instanceMethod yX3_settle, Cond.selects RX3 yX3_settle yX3_settle, Cond.code yX3_settle cX3_settle 3 none, Cond.fieldLink RX3 23 "Forwardroll$Customer" "balances" "LForwardroll$Amounts;", Cond.methodLink RX3 35 yX3_netAmountsOf, Cond.instanceMethod yX3_netAmountsOf, Cond.selects RX3 yX3_netAmountsOf yX3_netAmountsOf, Cond.code yX3_netAmountsOf cX3_netAmountsOf 2 (some (.object "Forwardroll$Amounts")), Cond.methodLink RX3 43 yX0_addAll, Cond.instanceMethod yX0_addAll, Cond.selects RX0 yX0_addAll yX0_addAll, Cond.code yX0_addAll cX0_addAll 3 none, Cond.methodLink RX0 19 yX0_amountOf, Cond.instanceMethod yX0_amountOf, Cond.selects RX0 yX0_amountOf yX0_amountOf, Cond.code yX0_amountOf cX0_amountOf 2 (some .long), Cond.methodLink RX0 23 yX0_add]
def wsX5_pass : List Cond := .code yX5_pass cX5_pass 4 (some .int) :: ((wsX5_pass_r1 ++ (wsX5_pass_r2 ++ (wsX5_pass_r3 ++ (wsX5_pass_r4 ++ wsX5_pass_r5)))) ++ wsX50 ++ wsX10 ++ wsX40 ++ wsX20 ++ wsX30 ++ wsX00 ++ (vx_atS RX5 61 "java/lang/IllegalStateException" ["java/lang/RuntimeException", "java/lang/Exception"]).filter goodWord ++ (vx_atS RX5 213 "java/lang/IllegalArgumentException" ["java/lang/RuntimeException", "java/lang/Exception"]).filter goodWord)
def wsX5_today : List Cond := .code yX5_today cX5_today 1 (some .int) :: ([.fieldLink RX5 12 "Forwardroll" "calendar" "LForwardroll$Calendar;"] ++ wsX50 ++ wsX10)
def wsX6_init : List Cond := .code yX6_init cX6_init 1 none :: ([.methodLink RX6 1 objectInit, .instanceMethod objectInit, .code objectInit ⟨#[0xb1]⟩ 1 none, .arrayClass .int, .fieldLink RX6 7 "ForwardrollModel" "spot" "[I", .fieldLink RX6 13 "ForwardrollModel" "points" "[I", .arrayClass .long, .constantLong RX6 16 (1000000), .fieldLink RX6 18 "ForwardrollModel" "limit" "[J", .arrayClass .boolean, .fieldLink RX6 22 "ForwardrollModel" "isHoliday" "[Z", .fieldLink RX6 26 "ForwardrollModel" "customer" "[I", .fieldLink RX6 29 "ForwardrollModel" "currency" "[I", .fieldLink RX6 32 "ForwardrollModel" "buys" "[Z", .fieldLink RX6 35 "ForwardrollModel" "left" "[I", .fieldLink RX6 38 "ForwardrollModel" "first" "[I", .fieldLink RX6 41 "ForwardrollModel" "last" "[I", .fieldLink RX6 44 "ForwardrollModel" "rate" "[I", .fieldLink RX6 47 "ForwardrollModel" "due" "[J", .fieldLink RX6 50 "ForwardrollModel" "balance" "[J"] ++ wsX60)
def wsX6_thrown : List Cond := .code yX6_thrown cX6_thrown 1 (some .int) :: ([.fieldLink RX6 53 "ForwardrollModel" "thrown" "I"] ++ wsX60)
def wsX6_in : List Cond := .code yX6_in cX6_in 3 (some .boolean) :: ([])
def wsX6_isCustomer : List Cond := .code yX6_isCustomer cX6_isCustomer 1 (some .boolean) :: ([.methodLink RX6 57 yX6_in, .static yX6_in, .initialized RX6, .code yX6_in cX6_in 3 (some .boolean)])
def wsX6_isCurrency : List Cond := .code yX6_isCurrency cX6_isCurrency 1 (some .boolean) :: ([.methodLink RX6 57 yX6_in, .static yX6_in, .initialized RX6, .code yX6_in cX6_in 3 (some .boolean)])
def wsX6_isDeal : List Cond := .code yX6_isDeal cX6_isDeal 2 (some .boolean) :: ([.fieldLink RX6 61 "ForwardrollModel" "deals" "I", .methodLink RX6 57 yX6_in, .static yX6_in, .initialized RX6, .code yX6_in cX6_in 3 (some .boolean)] ++ wsX60)
def wsX6_atLeastOne : List Cond := .code yX6_atLeastOne cX6_atLeastOne 1 (some .int) :: ([])
def wsX6_forwardFor : List Cond := .code yX6_forwardFor cX6_forwardFor 3 (some .int) :: ([.fieldLink RX6 7 "ForwardrollModel" "spot" "[I", .fieldLink RX6 13 "ForwardrollModel" "points" "[I", .fieldLink RX6 64 "ForwardrollModel" "today" "I", .methodLink RX6 67 yX6_atLeastOne, .static yX6_atLeastOne, .initialized RX6, .code yX6_atLeastOne cX6_atLeastOne 1 (some .int)] ++ wsX60)
def wsX6_home : List Cond := .code yX6_home cX6_home 2 (some .long) :: ([.constantLong RX6 71 (10000)])
def wsX6_setRate : List Cond := .code yX6_setRate cX6_setRate 4 (some .int) :: ([.constant RX6 77 (100000), .fieldLink RX6 53 "ForwardrollModel" "thrown" "I", .fieldLink RX6 7 "ForwardrollModel" "spot" "[I", .methodLink RX6 73 yX6_isCurrency, .static yX6_isCurrency, .initialized RX6, .code yX6_isCurrency cX6_isCurrency 1 (some .boolean), .methodLink RX6 57 yX6_in, .static yX6_in, .code yX6_in cX6_in 3 (some .boolean)] ++ wsX60)
def wsX6_setPoints : List Cond := .code yX6_setPoints cX6_setPoints 4 (some .int) :: ([.fieldLink RX6 53 "ForwardrollModel" "thrown" "I", .fieldLink RX6 13 "ForwardrollModel" "points" "[I", .methodLink RX6 73 yX6_isCurrency, .static yX6_isCurrency, .initialized RX6, .code yX6_isCurrency cX6_isCurrency 1 (some .boolean), .methodLink RX6 57 yX6_in, .static yX6_in, .code yX6_in cX6_in 3 (some .boolean)] ++ wsX60)
def wsX6_toggleHoliday : List Cond := .code yX6_toggleHoliday cX6_toggleHoliday 2 (some .boolean) :: ([.fieldLink RX6 64 "ForwardrollModel" "today" "I", .fieldLink RX6 53 "ForwardrollModel" "thrown" "I", .fieldLink RX6 22 "ForwardrollModel" "isHoliday" "[Z", .methodLink RX6 57 yX6_in, .static yX6_in, .initialized RX6, .code yX6_in cX6_in 3 (some .boolean)] ++ wsX60)
def wsX6_setLimit : List Cond := .code yX6_setLimit cX6_setLimit 5 (some .int) :: ([.constant RX6 81 (100000000), .fieldLink RX6 53 "ForwardrollModel" "thrown" "I", .fieldLink RX6 18 "ForwardrollModel" "limit" "[J", .methodLink RX6 78 yX6_isCustomer, .static yX6_isCustomer, .initialized RX6, .code yX6_isCustomer cX6_isCustomer 1 (some .boolean), .methodLink RX6 57 yX6_in, .static yX6_in, .code yX6_in cX6_in 3 (some .boolean)] ++ wsX60)
def wsX6_forward : List Cond := .code yX6_forward cX6_forward 3 (some .int) :: ([.fieldLink RX6 53 "ForwardrollModel" "thrown" "I", .fieldLink RX6 64 "ForwardrollModel" "today" "I", .methodLink RX6 73 yX6_isCurrency, .static yX6_isCurrency, .initialized RX6, .code yX6_isCurrency cX6_isCurrency 1 (some .boolean), .methodLink RX6 57 yX6_in, .static yX6_in, .code yX6_in cX6_in 3 (some .boolean), .methodLink RX6 82 yX6_forwardFor, .instanceMethod yX6_forwardFor, .selects RX6 yX6_forwardFor yX6_forwardFor, .code yX6_forwardFor cX6_forwardFor 3 (some .int), .fieldLink RX6 7 "ForwardrollModel" "spot" "[I", .fieldLink RX6 13 "ForwardrollModel" "points" "[I", .methodLink RX6 67 yX6_atLeastOne, .static yX6_atLeastOne, .code yX6_atLeastOne cX6_atLeastOne 1 (some .int)] ++ wsX60)
def wsX6_gainOf : List Cond := .code yX6_gainOf cX6_gainOf 6 (some .long) :: ([.fieldLink RX6 44 "ForwardrollModel" "rate" "[I", .fieldLink RX6 32 "ForwardrollModel" "buys" "[Z", .methodLink RX6 86 yX6_home, .static yX6_home, .initialized RX6, .code yX6_home cX6_home 2 (some .long), .constantLong RX6 71 (10000)] ++ wsX60)
def wsX6_gainNow : List Cond := .code yX6_gainNow cX6_gainNow 2 (some .long) :: ([.fieldLink RX6 35 "ForwardrollModel" "left" "[I", .fieldLink RX6 29 "ForwardrollModel" "currency" "[I", .fieldLink RX6 41 "ForwardrollModel" "last" "[I", .methodLink RX6 82 yX6_forwardFor, .instanceMethod yX6_forwardFor, .selects RX6 yX6_forwardFor yX6_forwardFor, .initialized RX6, .code yX6_forwardFor cX6_forwardFor 3 (some .int), .fieldLink RX6 7 "ForwardrollModel" "spot" "[I", .fieldLink RX6 13 "ForwardrollModel" "points" "[I", .fieldLink RX6 64 "ForwardrollModel" "today" "I", .methodLink RX6 67 yX6_atLeastOne, .static yX6_atLeastOne, .code yX6_atLeastOne cX6_atLeastOne 1 (some .int), .methodLink RX6 90 yX6_gainOf, .instanceMethod yX6_gainOf, .selects RX6 yX6_gainOf yX6_gainOf, .code yX6_gainOf cX6_gainOf 6 (some .long), .fieldLink RX6 44 "ForwardrollModel" "rate" "[I", .fieldLink RX6 32 "ForwardrollModel" "buys" "[Z", .methodLink RX6 86 yX6_home, .static yX6_home, .code yX6_home cX6_home 2 (some .long), .constantLong RX6 71 (10000)] ++ wsX60)
def wsX6_valueAt_r1 : List Cond := [Cond.fieldLink RX6 61 "ForwardrollModel" "deals" "I", Cond.fieldLink RX6 29 "ForwardrollModel" "currency" "[I", Cond.fieldLink RX6 41 "ForwardrollModel" "last" "[I", Cond.fieldLink RX6 26 "ForwardrollModel" "customer" "[I", Cond.fieldLink RX6 35 "ForwardrollModel" "left" "[I", Cond.methodLink RX6 82 yX6_forwardFor, Cond.instanceMethod yX6_forwardFor, Cond.selects RX6 yX6_forwardFor yX6_forwardFor, Cond.initialized RX6, Cond.code yX6_forwardFor cX6_forwardFor 3 (some .int), Cond.fieldLink RX6 7 "ForwardrollModel" "spot" "[I", Cond.fieldLink RX6 13 "ForwardrollModel" "points" "[I", Cond.fieldLink RX6 64 "ForwardrollModel" "today" "I", Cond.methodLink RX6 67 yX6_atLeastOne, Cond.static yX6_atLeastOne, Cond.code yX6_atLeastOne cX6_atLeastOne 1 (some .int), Cond.methodLink RX6 90 yX6_gainOf, Cond.instanceMethod yX6_gainOf, Cond.selects RX6 yX6_gainOf yX6_gainOf, Cond.code yX6_gainOf cX6_gainOf 6 (some .long), Cond.fieldLink RX6 44 "ForwardrollModel" "rate" "[I", Cond.fieldLink RX6 32 "ForwardrollModel" "buys" "[Z", Cond.methodLink RX6 86 yX6_home, Cond.static yX6_home]
def wsX6_valueAt_r2 : List Cond := [Cond.code yX6_home cX6_home 2 (some .long), Cond.constantLong RX6 71 (10000)]
def wsX6_valueAt : List Cond := .code yX6_valueAt cX6_valueAt 7 (some .long) :: ((wsX6_valueAt_r1 ++ wsX6_valueAt_r2) ++ wsX60)
def wsX6_exposureOf_r1 : List Cond := [Cond.methodLink RX6 94 yX6_valueAt, Cond.instanceMethod yX6_valueAt, Cond.selects RX6 yX6_valueAt yX6_valueAt, Cond.initialized RX6, Cond.code yX6_valueAt cX6_valueAt 7 (some .long), Cond.fieldLink RX6 61 "ForwardrollModel" "deals" "I", Cond.fieldLink RX6 29 "ForwardrollModel" "currency" "[I", Cond.fieldLink RX6 41 "ForwardrollModel" "last" "[I", Cond.fieldLink RX6 26 "ForwardrollModel" "customer" "[I", Cond.fieldLink RX6 35 "ForwardrollModel" "left" "[I", Cond.methodLink RX6 82 yX6_forwardFor, Cond.instanceMethod yX6_forwardFor, Cond.selects RX6 yX6_forwardFor yX6_forwardFor, Cond.code yX6_forwardFor cX6_forwardFor 3 (some .int), Cond.fieldLink RX6 7 "ForwardrollModel" "spot" "[I", Cond.fieldLink RX6 13 "ForwardrollModel" "points" "[I", Cond.fieldLink RX6 64 "ForwardrollModel" "today" "I", Cond.methodLink RX6 67 yX6_atLeastOne, Cond.static yX6_atLeastOne, Cond.code yX6_atLeastOne cX6_atLeastOne 1 (some .int), Cond.methodLink RX6 90 yX6_gainOf, Cond.instanceMethod yX6_gainOf, Cond.selects RX6 yX6_gainOf yX6_gainOf, Cond.code yX6_gainOf cX6_gainOf 6 (some .long)]
def wsX6_exposureOf_r2 : List Cond := [Cond.fieldLink RX6 44 "ForwardrollModel" "rate" "[I", Cond.fieldLink RX6 32 "ForwardrollModel" "buys" "[Z", Cond.methodLink RX6 86 yX6_home, Cond.static yX6_home, Cond.code yX6_home cX6_home 2 (some .long), Cond.constantLong RX6 71 (10000)]
def wsX6_exposureOf : List Cond := .code yX6_exposureOf cX6_exposureOf 8 (some .long) :: ((wsX6_exposureOf_r1 ++ wsX6_exposureOf_r2) ++ wsX60)
def wsX6_isBusiness : List Cond := .code yX6_isBusiness cX6_isBusiness 2 (some .boolean) :: ([.fieldLink RX6 22 "ForwardrollModel" "isHoliday" "[Z"] ++ wsX60)
def wsX6_settles : List Cond := .code yX6_settles cX6_settles 2 (some .int) :: ([.fieldLink RX6 64 "ForwardrollModel" "today" "I", .methodLink RX6 97 yX6_isBusiness, .instanceMethod yX6_isBusiness, .selects RX6 yX6_isBusiness yX6_isBusiness, .initialized RX6, .code yX6_isBusiness cX6_isBusiness 2 (some .boolean), .fieldLink RX6 22 "ForwardrollModel" "isHoliday" "[Z"] ++ wsX60)
def wsX6_owes : List Cond := .code yX6_owes cX6_owes 5 none :: ([.fieldLink RX6 47 "ForwardrollModel" "due" "[J", .methodLink RX6 100 yX6_settles, .instanceMethod yX6_settles, .selects RX6 yX6_settles yX6_settles, .initialized RX6, .code yX6_settles cX6_settles 2 (some .int), .fieldLink RX6 64 "ForwardrollModel" "today" "I", .methodLink RX6 97 yX6_isBusiness, .instanceMethod yX6_isBusiness, .selects RX6 yX6_isBusiness yX6_isBusiness, .code yX6_isBusiness cX6_isBusiness 2 (some .boolean), .fieldLink RX6 22 "ForwardrollModel" "isHoliday" "[Z"] ++ wsX60)
def wsX6_deal_r1 : List Cond := [Cond.constant RX6 104 (1000000), Cond.fieldLink RX6 61 "ForwardrollModel" "deals" "I", Cond.fieldLink RX6 53 "ForwardrollModel" "thrown" "I", Cond.fieldLink RX6 26 "ForwardrollModel" "customer" "[I", Cond.fieldLink RX6 29 "ForwardrollModel" "currency" "[I", Cond.fieldLink RX6 32 "ForwardrollModel" "buys" "[Z", Cond.fieldLink RX6 35 "ForwardrollModel" "left" "[I", Cond.fieldLink RX6 38 "ForwardrollModel" "first" "[I", Cond.fieldLink RX6 64 "ForwardrollModel" "today" "I", Cond.fieldLink RX6 41 "ForwardrollModel" "last" "[I", Cond.fieldLink RX6 44 "ForwardrollModel" "rate" "[I", Cond.fieldLink RX6 18 "ForwardrollModel" "limit" "[J", Cond.methodLink RX6 78 yX6_isCustomer, Cond.static yX6_isCustomer, Cond.initialized RX6, Cond.code yX6_isCustomer cX6_isCustomer 1 (some .boolean), Cond.methodLink RX6 57 yX6_in, Cond.static yX6_in, Cond.code yX6_in cX6_in 3 (some .boolean), Cond.methodLink RX6 73 yX6_isCurrency, Cond.static yX6_isCurrency, Cond.code yX6_isCurrency cX6_isCurrency 1 (some .boolean), Cond.methodLink RX6 82 yX6_forwardFor, Cond.instanceMethod yX6_forwardFor]
def wsX6_deal_r2 : List Cond := [Cond.selects RX6 yX6_forwardFor yX6_forwardFor, Cond.code yX6_forwardFor cX6_forwardFor 3 (some .int), Cond.fieldLink RX6 7 "ForwardrollModel" "spot" "[I", Cond.fieldLink RX6 13 "ForwardrollModel" "points" "[I", Cond.methodLink RX6 67 yX6_atLeastOne, Cond.static yX6_atLeastOne, Cond.code yX6_atLeastOne cX6_atLeastOne 1 (some .int), Cond.methodLink RX6 105 yX6_exposureOf, Cond.instanceMethod yX6_exposureOf, Cond.selects RX6 yX6_exposureOf yX6_exposureOf, Cond.code yX6_exposureOf cX6_exposureOf 8 (some .long), Cond.methodLink RX6 94 yX6_valueAt, Cond.instanceMethod yX6_valueAt, Cond.selects RX6 yX6_valueAt yX6_valueAt, Cond.code yX6_valueAt cX6_valueAt 7 (some .long), Cond.methodLink RX6 90 yX6_gainOf, Cond.instanceMethod yX6_gainOf, Cond.selects RX6 yX6_gainOf yX6_gainOf, Cond.code yX6_gainOf cX6_gainOf 6 (some .long), Cond.methodLink RX6 86 yX6_home, Cond.static yX6_home, Cond.code yX6_home cX6_home 2 (some .long), Cond.constantLong RX6 71 (10000)]
def wsX6_deal : List Cond := .code yX6_deal cX6_deal 10 (some .int) :: ((wsX6_deal_r1 ++ wsX6_deal_r2) ++ wsX60)
def wsX6_draw_r1 : List Cond := [Cond.fieldLink RX6 35 "ForwardrollModel" "left" "[I", Cond.fieldLink RX6 53 "ForwardrollModel" "thrown" "I", Cond.fieldLink RX6 38 "ForwardrollModel" "first" "[I", Cond.fieldLink RX6 64 "ForwardrollModel" "today" "I", Cond.fieldLink RX6 13 "ForwardrollModel" "points" "[I", Cond.fieldLink RX6 29 "ForwardrollModel" "currency" "[I", Cond.fieldLink RX6 44 "ForwardrollModel" "rate" "[I", Cond.fieldLink RX6 26 "ForwardrollModel" "customer" "[I", Cond.fieldLink RX6 32 "ForwardrollModel" "buys" "[Z", Cond.methodLink RX6 109 yX6_isDeal, Cond.instanceMethod yX6_isDeal, Cond.selects RX6 yX6_isDeal yX6_isDeal, Cond.initialized RX6, Cond.code yX6_isDeal cX6_isDeal 2 (some .boolean), Cond.fieldLink RX6 61 "ForwardrollModel" "deals" "I", Cond.methodLink RX6 57 yX6_in, Cond.static yX6_in, Cond.code yX6_in cX6_in 3 (some .boolean), Cond.methodLink RX6 67 yX6_atLeastOne, Cond.static yX6_atLeastOne, Cond.code yX6_atLeastOne cX6_atLeastOne 1 (some .int), Cond.methodLink RX6 86 yX6_home, Cond.static yX6_home, Cond.code yX6_home cX6_home 2 (some .long)]
def wsX6_draw_r2 : List Cond := [Cond.constantLong RX6 71 (10000), Cond.methodLink RX6 112 yX6_owes, Cond.instanceMethod yX6_owes, Cond.selects RX6 yX6_owes yX6_owes, Cond.code yX6_owes cX6_owes 5 none, Cond.fieldLink RX6 47 "ForwardrollModel" "due" "[J", Cond.methodLink RX6 100 yX6_settles, Cond.instanceMethod yX6_settles, Cond.selects RX6 yX6_settles yX6_settles, Cond.code yX6_settles cX6_settles 2 (some .int), Cond.methodLink RX6 97 yX6_isBusiness, Cond.instanceMethod yX6_isBusiness, Cond.selects RX6 yX6_isBusiness yX6_isBusiness, Cond.code yX6_isBusiness cX6_isBusiness 2 (some .boolean), Cond.fieldLink RX6 22 "ForwardrollModel" "isHoliday" "[Z"]
def wsX6_draw : List Cond := .code yX6_draw cX6_draw 7 (some .int) :: ((wsX6_draw_r1 ++ wsX6_draw_r2) ++ wsX60)
def wsX6_roll_r1 : List Cond := [Cond.fieldLink RX6 35 "ForwardrollModel" "left" "[I", Cond.fieldLink RX6 41 "ForwardrollModel" "last" "[I", Cond.fieldLink RX6 64 "ForwardrollModel" "today" "I", Cond.fieldLink RX6 53 "ForwardrollModel" "thrown" "I", Cond.fieldLink RX6 26 "ForwardrollModel" "customer" "[I", Cond.fieldLink RX6 44 "ForwardrollModel" "rate" "[I", Cond.fieldLink RX6 29 "ForwardrollModel" "currency" "[I", Cond.fieldLink RX6 13 "ForwardrollModel" "points" "[I", Cond.fieldLink RX6 38 "ForwardrollModel" "first" "[I", Cond.methodLink RX6 109 yX6_isDeal, Cond.instanceMethod yX6_isDeal, Cond.selects RX6 yX6_isDeal yX6_isDeal, Cond.initialized RX6, Cond.code yX6_isDeal cX6_isDeal 2 (some .boolean), Cond.fieldLink RX6 61 "ForwardrollModel" "deals" "I", Cond.methodLink RX6 57 yX6_in, Cond.static yX6_in, Cond.code yX6_in cX6_in 3 (some .boolean), Cond.methodLink RX6 116 yX6_gainNow, Cond.instanceMethod yX6_gainNow, Cond.selects RX6 yX6_gainNow yX6_gainNow, Cond.code yX6_gainNow cX6_gainNow 2 (some .long), Cond.methodLink RX6 82 yX6_forwardFor, Cond.instanceMethod yX6_forwardFor]
def wsX6_roll_r2 : List Cond := [Cond.selects RX6 yX6_forwardFor yX6_forwardFor, Cond.code yX6_forwardFor cX6_forwardFor 3 (some .int), Cond.fieldLink RX6 7 "ForwardrollModel" "spot" "[I", Cond.methodLink RX6 67 yX6_atLeastOne, Cond.static yX6_atLeastOne, Cond.code yX6_atLeastOne cX6_atLeastOne 1 (some .int), Cond.methodLink RX6 90 yX6_gainOf, Cond.instanceMethod yX6_gainOf, Cond.selects RX6 yX6_gainOf yX6_gainOf, Cond.code yX6_gainOf cX6_gainOf 6 (some .long), Cond.fieldLink RX6 32 "ForwardrollModel" "buys" "[Z", Cond.methodLink RX6 86 yX6_home, Cond.static yX6_home, Cond.code yX6_home cX6_home 2 (some .long), Cond.constantLong RX6 71 (10000), Cond.methodLink RX6 112 yX6_owes, Cond.instanceMethod yX6_owes, Cond.selects RX6 yX6_owes yX6_owes, Cond.code yX6_owes cX6_owes 5 none, Cond.fieldLink RX6 47 "ForwardrollModel" "due" "[J", Cond.methodLink RX6 100 yX6_settles, Cond.instanceMethod yX6_settles, Cond.selects RX6 yX6_settles yX6_settles, Cond.code yX6_settles cX6_settles 2 (some .int)]
def wsX6_roll_r3 : List Cond := [Cond.methodLink RX6 97 yX6_isBusiness, Cond.instanceMethod yX6_isBusiness, Cond.selects RX6 yX6_isBusiness yX6_isBusiness, Cond.code yX6_isBusiness cX6_isBusiness 2 (some .boolean), Cond.fieldLink RX6 22 "ForwardrollModel" "isHoliday" "[Z"]
def wsX6_roll : List Cond := .code yX6_roll cX6_roll 5 (some .int) :: ((wsX6_roll_r1 ++ (wsX6_roll_r2 ++ wsX6_roll_r3)) ++ wsX60)
def wsX6_closes_r1 : List Cond := [Cond.fieldLink RX6 26 "ForwardrollModel" "customer" "[I", Cond.fieldLink RX6 35 "ForwardrollModel" "left" "[I", Cond.methodLink RX6 116 yX6_gainNow, Cond.instanceMethod yX6_gainNow, Cond.selects RX6 yX6_gainNow yX6_gainNow, Cond.initialized RX6, Cond.code yX6_gainNow cX6_gainNow 2 (some .long), Cond.fieldLink RX6 29 "ForwardrollModel" "currency" "[I", Cond.fieldLink RX6 41 "ForwardrollModel" "last" "[I", Cond.methodLink RX6 82 yX6_forwardFor, Cond.instanceMethod yX6_forwardFor, Cond.selects RX6 yX6_forwardFor yX6_forwardFor, Cond.code yX6_forwardFor cX6_forwardFor 3 (some .int), Cond.fieldLink RX6 7 "ForwardrollModel" "spot" "[I", Cond.fieldLink RX6 13 "ForwardrollModel" "points" "[I", Cond.fieldLink RX6 64 "ForwardrollModel" "today" "I", Cond.methodLink RX6 67 yX6_atLeastOne, Cond.static yX6_atLeastOne, Cond.code yX6_atLeastOne cX6_atLeastOne 1 (some .int), Cond.methodLink RX6 90 yX6_gainOf, Cond.instanceMethod yX6_gainOf, Cond.selects RX6 yX6_gainOf yX6_gainOf, Cond.code yX6_gainOf cX6_gainOf 6 (some .long), Cond.fieldLink RX6 44 "ForwardrollModel" "rate" "[I"]
def wsX6_closes_r2 : List Cond := [Cond.fieldLink RX6 32 "ForwardrollModel" "buys" "[Z", Cond.methodLink RX6 86 yX6_home, Cond.static yX6_home, Cond.code yX6_home cX6_home 2 (some .long), Cond.constantLong RX6 71 (10000), Cond.methodLink RX6 112 yX6_owes, Cond.instanceMethod yX6_owes, Cond.selects RX6 yX6_owes yX6_owes, Cond.code yX6_owes cX6_owes 5 none, Cond.fieldLink RX6 47 "ForwardrollModel" "due" "[J", Cond.methodLink RX6 100 yX6_settles, Cond.instanceMethod yX6_settles, Cond.selects RX6 yX6_settles yX6_settles, Cond.code yX6_settles cX6_settles 2 (some .int), Cond.methodLink RX6 97 yX6_isBusiness, Cond.instanceMethod yX6_isBusiness, Cond.selects RX6 yX6_isBusiness yX6_isBusiness, Cond.code yX6_isBusiness cX6_isBusiness 2 (some .boolean), Cond.fieldLink RX6 22 "ForwardrollModel" "isHoliday" "[Z"]
def wsX6_closes : List Cond := .code yX6_closes cX6_closes 4 (some .long) :: ((wsX6_closes_r1 ++ wsX6_closes_r2) ++ wsX60)
def wsX6_closeOut_r1 : List Cond := [Cond.fieldLink RX6 35 "ForwardrollModel" "left" "[I", Cond.fieldLink RX6 53 "ForwardrollModel" "thrown" "I", Cond.methodLink RX6 109 yX6_isDeal, Cond.instanceMethod yX6_isDeal, Cond.selects RX6 yX6_isDeal yX6_isDeal, Cond.initialized RX6, Cond.code yX6_isDeal cX6_isDeal 2 (some .boolean), Cond.fieldLink RX6 61 "ForwardrollModel" "deals" "I", Cond.methodLink RX6 57 yX6_in, Cond.static yX6_in, Cond.code yX6_in cX6_in 3 (some .boolean), Cond.methodLink RX6 119 yX6_closes, Cond.instanceMethod yX6_closes, Cond.selects RX6 yX6_closes yX6_closes, Cond.code yX6_closes cX6_closes 4 (some .long), Cond.fieldLink RX6 26 "ForwardrollModel" "customer" "[I", Cond.methodLink RX6 116 yX6_gainNow, Cond.instanceMethod yX6_gainNow, Cond.selects RX6 yX6_gainNow yX6_gainNow, Cond.code yX6_gainNow cX6_gainNow 2 (some .long), Cond.fieldLink RX6 29 "ForwardrollModel" "currency" "[I", Cond.fieldLink RX6 41 "ForwardrollModel" "last" "[I", Cond.methodLink RX6 82 yX6_forwardFor, Cond.instanceMethod yX6_forwardFor]
def wsX6_closeOut_r2 : List Cond := [Cond.selects RX6 yX6_forwardFor yX6_forwardFor, Cond.code yX6_forwardFor cX6_forwardFor 3 (some .int), Cond.fieldLink RX6 7 "ForwardrollModel" "spot" "[I", Cond.fieldLink RX6 13 "ForwardrollModel" "points" "[I", Cond.fieldLink RX6 64 "ForwardrollModel" "today" "I", Cond.methodLink RX6 67 yX6_atLeastOne, Cond.static yX6_atLeastOne, Cond.code yX6_atLeastOne cX6_atLeastOne 1 (some .int), Cond.methodLink RX6 90 yX6_gainOf, Cond.instanceMethod yX6_gainOf, Cond.selects RX6 yX6_gainOf yX6_gainOf, Cond.code yX6_gainOf cX6_gainOf 6 (some .long), Cond.fieldLink RX6 44 "ForwardrollModel" "rate" "[I", Cond.fieldLink RX6 32 "ForwardrollModel" "buys" "[Z", Cond.methodLink RX6 86 yX6_home, Cond.static yX6_home, Cond.code yX6_home cX6_home 2 (some .long), Cond.constantLong RX6 71 (10000), Cond.methodLink RX6 112 yX6_owes, Cond.instanceMethod yX6_owes, Cond.selects RX6 yX6_owes yX6_owes, Cond.code yX6_owes cX6_owes 5 none, Cond.fieldLink RX6 47 "ForwardrollModel" "due" "[J", Cond.methodLink RX6 100 yX6_settles]
def wsX6_closeOut_r3 : List Cond := [Cond.instanceMethod yX6_settles, Cond.selects RX6 yX6_settles yX6_settles, Cond.code yX6_settles cX6_settles 2 (some .int), Cond.methodLink RX6 97 yX6_isBusiness, Cond.instanceMethod yX6_isBusiness, Cond.selects RX6 yX6_isBusiness yX6_isBusiness, Cond.code yX6_isBusiness cX6_isBusiness 2 (some .boolean), Cond.fieldLink RX6 22 "ForwardrollModel" "isHoliday" "[Z"]
def wsX6_closeOut : List Cond := .code yX6_closeOut cX6_closeOut 2 (some .long) :: ((wsX6_closeOut_r1 ++ (wsX6_closeOut_r2 ++ wsX6_closeOut_r3)) ++ wsX60)
def wsX6_asks : List Cond := .code yX6_asks cX6_asks 2 (some .boolean) :: ([.fieldLink RX6 53 "ForwardrollModel" "thrown" "I", .methodLink RX6 109 yX6_isDeal, .instanceMethod yX6_isDeal, .selects RX6 yX6_isDeal yX6_isDeal, .initialized RX6, .code yX6_isDeal cX6_isDeal 2 (some .boolean), .fieldLink RX6 61 "ForwardrollModel" "deals" "I", .methodLink RX6 57 yX6_in, .static yX6_in, .code yX6_in cX6_in 3 (some .boolean)] ++ wsX60)
def wsX6_left : List Cond := .code yX6_left cX6_left 2 (some .int) :: ([.fieldLink RX6 35 "ForwardrollModel" "left" "[I", .methodLink RX6 122 yX6_asks, .instanceMethod yX6_asks, .selects RX6 yX6_asks yX6_asks, .initialized RX6, .code yX6_asks cX6_asks 2 (some .boolean), .fieldLink RX6 53 "ForwardrollModel" "thrown" "I", .methodLink RX6 109 yX6_isDeal, .instanceMethod yX6_isDeal, .selects RX6 yX6_isDeal yX6_isDeal, .code yX6_isDeal cX6_isDeal 2 (some .boolean), .fieldLink RX6 61 "ForwardrollModel" "deals" "I", .methodLink RX6 57 yX6_in, .static yX6_in, .code yX6_in cX6_in 3 (some .boolean)] ++ wsX60)
def wsX6_rate : List Cond := .code yX6_rate cX6_rate 2 (some .int) :: ([.fieldLink RX6 44 "ForwardrollModel" "rate" "[I", .methodLink RX6 122 yX6_asks, .instanceMethod yX6_asks, .selects RX6 yX6_asks yX6_asks, .initialized RX6, .code yX6_asks cX6_asks 2 (some .boolean), .fieldLink RX6 53 "ForwardrollModel" "thrown" "I", .methodLink RX6 109 yX6_isDeal, .instanceMethod yX6_isDeal, .selects RX6 yX6_isDeal yX6_isDeal, .code yX6_isDeal cX6_isDeal 2 (some .boolean), .fieldLink RX6 61 "ForwardrollModel" "deals" "I", .methodLink RX6 57 yX6_in, .static yX6_in, .code yX6_in cX6_in 3 (some .boolean)] ++ wsX60)
def wsX6_window : List Cond := .code yX6_window cX6_window 2 (some .int) :: ([.fieldLink RX6 38 "ForwardrollModel" "first" "[I", .fieldLink RX6 41 "ForwardrollModel" "last" "[I", .methodLink RX6 122 yX6_asks, .instanceMethod yX6_asks, .selects RX6 yX6_asks yX6_asks, .initialized RX6, .code yX6_asks cX6_asks 2 (some .boolean), .fieldLink RX6 53 "ForwardrollModel" "thrown" "I", .methodLink RX6 109 yX6_isDeal, .instanceMethod yX6_isDeal, .selects RX6 yX6_isDeal yX6_isDeal, .code yX6_isDeal cX6_isDeal 2 (some .boolean), .fieldLink RX6 61 "ForwardrollModel" "deals" "I", .methodLink RX6 57 yX6_in, .static yX6_in, .code yX6_in cX6_in 3 (some .boolean)] ++ wsX60)
def wsX6_gain_r1 : List Cond := [Cond.methodLink RX6 122 yX6_asks, Cond.instanceMethod yX6_asks, Cond.selects RX6 yX6_asks yX6_asks, Cond.initialized RX6, Cond.code yX6_asks cX6_asks 2 (some .boolean), Cond.fieldLink RX6 53 "ForwardrollModel" "thrown" "I", Cond.methodLink RX6 109 yX6_isDeal, Cond.instanceMethod yX6_isDeal, Cond.selects RX6 yX6_isDeal yX6_isDeal, Cond.code yX6_isDeal cX6_isDeal 2 (some .boolean), Cond.fieldLink RX6 61 "ForwardrollModel" "deals" "I", Cond.methodLink RX6 57 yX6_in, Cond.static yX6_in, Cond.code yX6_in cX6_in 3 (some .boolean), Cond.methodLink RX6 116 yX6_gainNow, Cond.instanceMethod yX6_gainNow, Cond.selects RX6 yX6_gainNow yX6_gainNow, Cond.code yX6_gainNow cX6_gainNow 2 (some .long), Cond.fieldLink RX6 35 "ForwardrollModel" "left" "[I", Cond.fieldLink RX6 29 "ForwardrollModel" "currency" "[I", Cond.fieldLink RX6 41 "ForwardrollModel" "last" "[I", Cond.methodLink RX6 82 yX6_forwardFor, Cond.instanceMethod yX6_forwardFor, Cond.selects RX6 yX6_forwardFor yX6_forwardFor]
def wsX6_gain_r2 : List Cond := [Cond.code yX6_forwardFor cX6_forwardFor 3 (some .int), Cond.fieldLink RX6 7 "ForwardrollModel" "spot" "[I", Cond.fieldLink RX6 13 "ForwardrollModel" "points" "[I", Cond.fieldLink RX6 64 "ForwardrollModel" "today" "I", Cond.methodLink RX6 67 yX6_atLeastOne, Cond.static yX6_atLeastOne, Cond.code yX6_atLeastOne cX6_atLeastOne 1 (some .int), Cond.methodLink RX6 90 yX6_gainOf, Cond.instanceMethod yX6_gainOf, Cond.selects RX6 yX6_gainOf yX6_gainOf, Cond.code yX6_gainOf cX6_gainOf 6 (some .long), Cond.fieldLink RX6 44 "ForwardrollModel" "rate" "[I", Cond.fieldLink RX6 32 "ForwardrollModel" "buys" "[Z", Cond.methodLink RX6 86 yX6_home, Cond.static yX6_home, Cond.code yX6_home cX6_home 2 (some .long), Cond.constantLong RX6 71 (10000)]
def wsX6_gain : List Cond := .code yX6_gain cX6_gain 2 (some .long) :: ((wsX6_gain_r1 ++ wsX6_gain_r2) ++ wsX60)
def wsX6_exposure_r1 : List Cond := [Cond.fieldLink RX6 53 "ForwardrollModel" "thrown" "I", Cond.methodLink RX6 78 yX6_isCustomer, Cond.static yX6_isCustomer, Cond.initialized RX6, Cond.code yX6_isCustomer cX6_isCustomer 1 (some .boolean), Cond.methodLink RX6 57 yX6_in, Cond.static yX6_in, Cond.code yX6_in cX6_in 3 (some .boolean), Cond.methodLink RX6 105 yX6_exposureOf, Cond.instanceMethod yX6_exposureOf, Cond.selects RX6 yX6_exposureOf yX6_exposureOf, Cond.code yX6_exposureOf cX6_exposureOf 8 (some .long), Cond.methodLink RX6 94 yX6_valueAt, Cond.instanceMethod yX6_valueAt, Cond.selects RX6 yX6_valueAt yX6_valueAt, Cond.code yX6_valueAt cX6_valueAt 7 (some .long), Cond.fieldLink RX6 61 "ForwardrollModel" "deals" "I", Cond.fieldLink RX6 29 "ForwardrollModel" "currency" "[I", Cond.fieldLink RX6 41 "ForwardrollModel" "last" "[I", Cond.fieldLink RX6 26 "ForwardrollModel" "customer" "[I", Cond.fieldLink RX6 35 "ForwardrollModel" "left" "[I", Cond.methodLink RX6 82 yX6_forwardFor, Cond.instanceMethod yX6_forwardFor, Cond.selects RX6 yX6_forwardFor yX6_forwardFor]
def wsX6_exposure_r2 : List Cond := [Cond.code yX6_forwardFor cX6_forwardFor 3 (some .int), Cond.fieldLink RX6 7 "ForwardrollModel" "spot" "[I", Cond.fieldLink RX6 13 "ForwardrollModel" "points" "[I", Cond.fieldLink RX6 64 "ForwardrollModel" "today" "I", Cond.methodLink RX6 67 yX6_atLeastOne, Cond.static yX6_atLeastOne, Cond.code yX6_atLeastOne cX6_atLeastOne 1 (some .int), Cond.methodLink RX6 90 yX6_gainOf, Cond.instanceMethod yX6_gainOf, Cond.selects RX6 yX6_gainOf yX6_gainOf, Cond.code yX6_gainOf cX6_gainOf 6 (some .long), Cond.fieldLink RX6 44 "ForwardrollModel" "rate" "[I", Cond.fieldLink RX6 32 "ForwardrollModel" "buys" "[Z", Cond.methodLink RX6 86 yX6_home, Cond.static yX6_home, Cond.code yX6_home cX6_home 2 (some .long), Cond.constantLong RX6 71 (10000)]
def wsX6_exposure : List Cond := .code yX6_exposure cX6_exposure 2 (some .long) :: ((wsX6_exposure_r1 ++ wsX6_exposure_r2) ++ wsX60)
def wsX6_settlementDay : List Cond := .code yX6_settlementDay cX6_settlementDay 1 (some .int) :: ([.fieldLink RX6 53 "ForwardrollModel" "thrown" "I", .methodLink RX6 100 yX6_settles, .instanceMethod yX6_settles, .selects RX6 yX6_settles yX6_settles, .initialized RX6, .code yX6_settles cX6_settles 2 (some .int), .fieldLink RX6 64 "ForwardrollModel" "today" "I", .methodLink RX6 97 yX6_isBusiness, .instanceMethod yX6_isBusiness, .selects RX6 yX6_isBusiness yX6_isBusiness, .code yX6_isBusiness cX6_isBusiness 2 (some .boolean), .fieldLink RX6 22 "ForwardrollModel" "isHoliday" "[Z"] ++ wsX60)
def wsX6_due : List Cond := .code yX6_due cX6_due 4 (some .long) :: ([.fieldLink RX6 53 "ForwardrollModel" "thrown" "I", .fieldLink RX6 47 "ForwardrollModel" "due" "[J", .fieldLink RX6 64 "ForwardrollModel" "today" "I", .methodLink RX6 78 yX6_isCustomer, .static yX6_isCustomer, .initialized RX6, .code yX6_isCustomer cX6_isCustomer 1 (some .boolean), .methodLink RX6 57 yX6_in, .static yX6_in, .code yX6_in cX6_in 3 (some .boolean)] ++ wsX60)
def wsX6_balance : List Cond := .code yX6_balance cX6_balance 3 (some .long) :: ([.fieldLink RX6 53 "ForwardrollModel" "thrown" "I", .fieldLink RX6 50 "ForwardrollModel" "balance" "[J", .methodLink RX6 78 yX6_isCustomer, .static yX6_isCustomer, .initialized RX6, .code yX6_isCustomer cX6_isCustomer 1 (some .boolean), .methodLink RX6 57 yX6_in, .static yX6_in, .code yX6_in cX6_in 3 (some .boolean)] ++ wsX60)
def wsX6_passes_r1 : List Cond := [Cond.fieldLink RX6 61 "ForwardrollModel" "deals" "I", Cond.fieldLink RX6 35 "ForwardrollModel" "left" "[I", Cond.fieldLink RX6 41 "ForwardrollModel" "last" "[I", Cond.fieldLink RX6 64 "ForwardrollModel" "today" "I", Cond.fieldLink RX6 50 "ForwardrollModel" "balance" "[J", Cond.fieldLink RX6 47 "ForwardrollModel" "due" "[J", Cond.methodLink RX6 119 yX6_closes, Cond.instanceMethod yX6_closes, Cond.selects RX6 yX6_closes yX6_closes, Cond.initialized RX6, Cond.code yX6_closes cX6_closes 4 (some .long), Cond.fieldLink RX6 26 "ForwardrollModel" "customer" "[I", Cond.methodLink RX6 116 yX6_gainNow, Cond.instanceMethod yX6_gainNow, Cond.selects RX6 yX6_gainNow yX6_gainNow, Cond.code yX6_gainNow cX6_gainNow 2 (some .long), Cond.fieldLink RX6 29 "ForwardrollModel" "currency" "[I", Cond.methodLink RX6 82 yX6_forwardFor, Cond.instanceMethod yX6_forwardFor, Cond.selects RX6 yX6_forwardFor yX6_forwardFor, Cond.code yX6_forwardFor cX6_forwardFor 3 (some .int), Cond.fieldLink RX6 7 "ForwardrollModel" "spot" "[I", Cond.fieldLink RX6 13 "ForwardrollModel" "points" "[I", Cond.methodLink RX6 67 yX6_atLeastOne]
def wsX6_passes_r2 : List Cond := [Cond.static yX6_atLeastOne, Cond.code yX6_atLeastOne cX6_atLeastOne 1 (some .int), Cond.methodLink RX6 90 yX6_gainOf, Cond.instanceMethod yX6_gainOf, Cond.selects RX6 yX6_gainOf yX6_gainOf, Cond.code yX6_gainOf cX6_gainOf 6 (some .long), Cond.fieldLink RX6 44 "ForwardrollModel" "rate" "[I", Cond.fieldLink RX6 32 "ForwardrollModel" "buys" "[Z", Cond.methodLink RX6 86 yX6_home, Cond.static yX6_home, Cond.code yX6_home cX6_home 2 (some .long), Cond.constantLong RX6 71 (10000), Cond.methodLink RX6 112 yX6_owes, Cond.instanceMethod yX6_owes, Cond.selects RX6 yX6_owes yX6_owes, Cond.code yX6_owes cX6_owes 5 none, Cond.methodLink RX6 100 yX6_settles, Cond.instanceMethod yX6_settles, Cond.selects RX6 yX6_settles yX6_settles, Cond.code yX6_settles cX6_settles 2 (some .int), Cond.methodLink RX6 97 yX6_isBusiness, Cond.instanceMethod yX6_isBusiness, Cond.selects RX6 yX6_isBusiness yX6_isBusiness, Cond.code yX6_isBusiness cX6_isBusiness 2 (some .boolean)]
def wsX6_passes_r3 : List Cond := [Cond.fieldLink RX6 22 "ForwardrollModel" "isHoliday" "[Z"]
def wsX6_passes : List Cond := .code yX6_passes cX6_passes 3 (some .int) :: ((wsX6_passes_r1 ++ (wsX6_passes_r2 ++ wsX6_passes_r3)) ++ wsX60)
def wsX6_pass_r1 : List Cond := [Cond.fieldLink RX6 64 "ForwardrollModel" "today" "I", Cond.fieldLink RX6 53 "ForwardrollModel" "thrown" "I", Cond.methodLink RX6 57 yX6_in, Cond.static yX6_in, Cond.initialized RX6, Cond.code yX6_in cX6_in 3 (some .boolean), Cond.methodLink RX6 125 yX6_passes, Cond.instanceMethod yX6_passes, Cond.selects RX6 yX6_passes yX6_passes, Cond.code yX6_passes cX6_passes 3 (some .int), Cond.fieldLink RX6 61 "ForwardrollModel" "deals" "I", Cond.fieldLink RX6 35 "ForwardrollModel" "left" "[I", Cond.fieldLink RX6 41 "ForwardrollModel" "last" "[I", Cond.fieldLink RX6 50 "ForwardrollModel" "balance" "[J", Cond.fieldLink RX6 47 "ForwardrollModel" "due" "[J", Cond.methodLink RX6 119 yX6_closes, Cond.instanceMethod yX6_closes, Cond.selects RX6 yX6_closes yX6_closes, Cond.code yX6_closes cX6_closes 4 (some .long), Cond.fieldLink RX6 26 "ForwardrollModel" "customer" "[I", Cond.methodLink RX6 116 yX6_gainNow, Cond.instanceMethod yX6_gainNow, Cond.selects RX6 yX6_gainNow yX6_gainNow, Cond.code yX6_gainNow cX6_gainNow 2 (some .long)]
def wsX6_pass_r2 : List Cond := [Cond.fieldLink RX6 29 "ForwardrollModel" "currency" "[I", Cond.methodLink RX6 82 yX6_forwardFor, Cond.instanceMethod yX6_forwardFor, Cond.selects RX6 yX6_forwardFor yX6_forwardFor, Cond.code yX6_forwardFor cX6_forwardFor 3 (some .int), Cond.fieldLink RX6 7 "ForwardrollModel" "spot" "[I", Cond.fieldLink RX6 13 "ForwardrollModel" "points" "[I", Cond.methodLink RX6 67 yX6_atLeastOne, Cond.static yX6_atLeastOne, Cond.code yX6_atLeastOne cX6_atLeastOne 1 (some .int), Cond.methodLink RX6 90 yX6_gainOf, Cond.instanceMethod yX6_gainOf, Cond.selects RX6 yX6_gainOf yX6_gainOf, Cond.code yX6_gainOf cX6_gainOf 6 (some .long), Cond.fieldLink RX6 44 "ForwardrollModel" "rate" "[I", Cond.fieldLink RX6 32 "ForwardrollModel" "buys" "[Z", Cond.methodLink RX6 86 yX6_home, Cond.static yX6_home, Cond.code yX6_home cX6_home 2 (some .long), Cond.constantLong RX6 71 (10000), Cond.methodLink RX6 112 yX6_owes, Cond.instanceMethod yX6_owes, Cond.selects RX6 yX6_owes yX6_owes, Cond.code yX6_owes cX6_owes 5 none]
def wsX6_pass_r3 : List Cond := [Cond.methodLink RX6 100 yX6_settles, Cond.instanceMethod yX6_settles, Cond.selects RX6 yX6_settles yX6_settles, Cond.code yX6_settles cX6_settles 2 (some .int), Cond.methodLink RX6 97 yX6_isBusiness, Cond.instanceMethod yX6_isBusiness, Cond.selects RX6 yX6_isBusiness yX6_isBusiness, Cond.code yX6_isBusiness cX6_isBusiness 2 (some .boolean), Cond.fieldLink RX6 22 "ForwardrollModel" "isHoliday" "[Z"]
def wsX6_pass : List Cond := .code yX6_pass cX6_pass 4 (some .int) :: ((wsX6_pass_r1 ++ (wsX6_pass_r2 ++ wsX6_pass_r3)) ++ wsX60)
def wsX6_today : List Cond := .code yX6_today cX6_today 1 (some .int) :: ([.fieldLink RX6 53 "ForwardrollModel" "thrown" "I", .fieldLink RX6 64 "ForwardrollModel" "today" "I"] ++ wsX60)
def wsJ9_max_7cf53 : List Cond := .code yJ9_max_7cf53 cJ9_max_7cf53 2 (some .int) :: ([])
def wsJ9_max_f86c9 : List Cond := .code yJ9_max_f86c9 cJ9_max_f86c9 4 (some .long) :: ([])
def wsL_setRate : List Cond := .codeWith yL_setRate cL_setRate 5 (some .int) [(0, 10, 13, 13), (0, 10, 17, 15)] :: ([.classLink RL 13 "java/lang/IndexOutOfBoundsException", .classLink RL 15 "java/lang/IllegalArgumentException", .methodLink RL 7 yX5_setRate, .instanceMethod yX5_setRate, .selects RX5 yX5_setRate yX5_setRate, .initialized RX5, .code yX5_setRate cX5_setRate 5 (some .int), .constant RX5 42 (100000), .methodLink RX5 38 yX5_currencyNumbered, .instanceMethod yX5_currencyNumbered, .selects RX5 yX5_currencyNumbered yX5_currencyNumbered, .code yX5_currencyNumbered cX5_currencyNumbered 3 (some (.object "Forwardroll$Currency")), .classLink RX5 200 "java/lang/IndexOutOfBoundsException", .initialized "java/lang/IndexOutOfBoundsException", .fieldLink RX5 18 "Forwardroll" "currencies" "[LForwardroll$Currency;", .methodLink RX5 84 yX5_isIndex, .static yX5_isIndex, .code yX5_isIndex cX5_isIndex 2 (some .boolean), .methodLink RX5 43 yX5_requireRange, .static yX5_requireRange, .code yX5_requireRange cX5_requireRange 3 none, .classLink RX5 209 "java/lang/IllegalArgumentException", .initialized "java/lang/IllegalArgumentException"] ++ wsX20 ++ wsX50 ++ (vx_atS RX5 204 "java/lang/IndexOutOfBoundsException" ["java/lang/RuntimeException", "java/lang/Exception"]).filter goodWord ++ (vx_atS RX5 213 "java/lang/IllegalArgumentException" ["java/lang/RuntimeException", "java/lang/Exception"]).filter goodWord)
def wsL_setPoints : List Cond := .codeWith yL_setPoints cL_setPoints 5 (some .int) [(0, 10, 13, 13), (0, 10, 17, 15)] :: ([.classLink RL 13 "java/lang/IndexOutOfBoundsException", .classLink RL 15 "java/lang/IllegalArgumentException", .methodLink RL 17 yX5_setPoints, .instanceMethod yX5_setPoints, .selects RX5 yX5_setPoints yX5_setPoints, .initialized RX5, .code yX5_setPoints cX5_setPoints 5 (some .int), .methodLink RX5 38 yX5_currencyNumbered, .instanceMethod yX5_currencyNumbered, .selects RX5 yX5_currencyNumbered yX5_currencyNumbered, .code yX5_currencyNumbered cX5_currencyNumbered 3 (some (.object "Forwardroll$Currency")), .classLink RX5 200 "java/lang/IndexOutOfBoundsException", .initialized "java/lang/IndexOutOfBoundsException", .fieldLink RX5 18 "Forwardroll" "currencies" "[LForwardroll$Currency;", .methodLink RX5 84 yX5_isIndex, .static yX5_isIndex, .code yX5_isIndex cX5_isIndex 2 (some .boolean), .methodLink RX5 43 yX5_requireRange, .static yX5_requireRange, .code yX5_requireRange cX5_requireRange 3 none, .classLink RX5 209 "java/lang/IllegalArgumentException", .initialized "java/lang/IllegalArgumentException"] ++ wsX20 ++ wsX50 ++ (vx_atS RX5 204 "java/lang/IndexOutOfBoundsException" ["java/lang/RuntimeException", "java/lang/Exception"]).filter goodWord ++ (vx_atS RX5 213 "java/lang/IllegalArgumentException" ["java/lang/RuntimeException", "java/lang/Exception"]).filter goodWord)
def wsL_toggleHoliday : List Cond := .codeWith yL_toggleHoliday cL_toggleHoliday 4 (some .int) [(0, 16, 19, 15), (0, 16, 22, 24)] :: ([.classLink RL 15 "java/lang/IllegalArgumentException", .classLink RL 24 "java/lang/IllegalStateException", .methodLink RL 20 yX5_toggleHoliday, .instanceMethod yX5_toggleHoliday, .selects RX5 yX5_toggleHoliday yX5_toggleHoliday, .initialized RX5, .code yX5_toggleHoliday cX5_toggleHoliday 2 (some .boolean), .classLink RX5 57 "java/lang/IllegalStateException", .initialized "java/lang/IllegalStateException", .fieldLink RX5 12 "Forwardroll" "calendar" "LForwardroll$Calendar;", .methodLink RX5 43 yX5_requireRange, .static yX5_requireRange, .code yX5_requireRange cX5_requireRange 3 none, .classLink RX5 209 "java/lang/IllegalArgumentException", .initialized "java/lang/IllegalArgumentException", .methodLink RX5 64 yX1_flipHoliday, .instanceMethod yX1_flipHoliday, .selects RX1 yX1_flipHoliday yX1_flipHoliday, .initialized RX1, .code yX1_flipHoliday cX1_flipHoliday 2 (some .boolean), .fieldLink RX1 9 "Forwardroll$Calendar" "holidays" "[Z", .static yX5_isIndex, .code yX5_isIndex cX5_isIndex 2 (some .boolean)] ++ wsX50 ++ wsX10 ++ (vx_atS RX5 61 "java/lang/IllegalStateException" ["java/lang/RuntimeException", "java/lang/Exception"]).filter goodWord ++ (vx_atS RX5 213 "java/lang/IllegalArgumentException" ["java/lang/RuntimeException", "java/lang/Exception"]).filter goodWord)
def wsL_setLimit : List Cond := .codeWith yL_setLimit cL_setLimit 5 (some .int) [(0, 10, 13, 13), (0, 10, 17, 15)] :: ([.classLink RL 13 "java/lang/IndexOutOfBoundsException", .classLink RL 15 "java/lang/IllegalArgumentException", .methodLink RL 26 yX5_setLimit, .instanceMethod yX5_setLimit, .selects RX5 yX5_setLimit yX5_setLimit, .initialized RX5, .code yX5_setLimit cX5_setLimit 5 (some .int), .constant RX5 72 (100000000), .methodLink RX5 68 yX5_customerNumbered, .instanceMethod yX5_customerNumbered, .selects RX5 yX5_customerNumbered yX5_customerNumbered, .code yX5_customerNumbered cX5_customerNumbered 3 (some (.object "Forwardroll$Customer")), .classLink RX5 200 "java/lang/IndexOutOfBoundsException", .initialized "java/lang/IndexOutOfBoundsException", .fieldLink RX5 27 "Forwardroll" "customers" "[LForwardroll$Customer;", .methodLink RX5 84 yX5_isIndex, .static yX5_isIndex, .code yX5_isIndex cX5_isIndex 2 (some .boolean), .methodLink RX5 43 yX5_requireRange, .static yX5_requireRange, .code yX5_requireRange cX5_requireRange 3 none, .classLink RX5 209 "java/lang/IllegalArgumentException", .initialized "java/lang/IllegalArgumentException"] ++ wsX30 ++ wsX50 ++ (vx_atS RX5 204 "java/lang/IndexOutOfBoundsException" ["java/lang/RuntimeException", "java/lang/Exception"]).filter goodWord ++ (vx_atS RX5 213 "java/lang/IllegalArgumentException" ["java/lang/RuntimeException", "java/lang/Exception"]).filter goodWord)
def wsL_forward_r1 : List Cond := [Cond.classLink RL 13 "java/lang/IndexOutOfBoundsException", Cond.classLink RL 15 "java/lang/IllegalArgumentException", Cond.methodLink RL 29 yX5_forward, Cond.instanceMethod yX5_forward, Cond.selects RX5 yX5_forward yX5_forward, Cond.initialized RX5, Cond.code yX5_forward cX5_forward 4 (some .int), Cond.methodLink RX5 38 yX5_currencyNumbered, Cond.instanceMethod yX5_currencyNumbered, Cond.selects RX5 yX5_currencyNumbered yX5_currencyNumbered, Cond.code yX5_currencyNumbered cX5_currencyNumbered 3 (some (.object "Forwardroll$Currency")), Cond.classLink RX5 200 "java/lang/IndexOutOfBoundsException", Cond.initialized "java/lang/IndexOutOfBoundsException", Cond.fieldLink RX5 18 "Forwardroll" "currencies" "[LForwardroll$Currency;", Cond.methodLink RX5 84 yX5_isIndex, Cond.static yX5_isIndex, Cond.code yX5_isIndex cX5_isIndex 2 (some .boolean), Cond.methodLink RX5 43 yX5_requireRange, Cond.static yX5_requireRange, Cond.code yX5_requireRange cX5_requireRange 3 none, Cond.classLink RX5 209 "java/lang/IllegalArgumentException", Cond.initialized "java/lang/IllegalArgumentException", Cond.methodLink RX5 76 yX2_forwardRate, Cond.instanceMethod yX2_forwardRate]
def wsL_forward_r2 : List Cond := [Cond.selects RX2 yX2_forwardRate yX2_forwardRate, Cond.initialized RX2, Cond.code yX2_forwardRate cX2_forwardRate 2 (some .int), Cond.fieldLink RX2 9 "Forwardroll$Currency" "spotRate" "I", Cond.methodLink RX2 18 yX2_laterRate, Cond.instanceMethod yX2_laterRate, Cond.selects RX2 yX2_laterRate yX2_laterRate, Cond.code yX2_laterRate cX2_laterRate 3 (some .int), Cond.fieldLink RX2 22 "Forwardroll$Currency" "points" "I", Cond.methodLink RX2 25 Lib.Math.max.name, Cond.static Lib.Math.max.name, Cond.initialized "java/lang/Math", Cond.code Lib.Math.max.name Lib.Math.max.code 2 (some .int)]
def wsL_forward : List Cond := .codeWith yL_forward cL_forward 5 (some .int) [(0, 10, 13, 13), (0, 10, 17, 15)] :: ((wsL_forward_r1 ++ wsL_forward_r2) ++ wsX50 ++ wsX20 ++ (vx_atS RX5 204 "java/lang/IndexOutOfBoundsException" ["java/lang/RuntimeException", "java/lang/Exception"]).filter goodWord ++ (vx_atS RX5 213 "java/lang/IllegalArgumentException" ["java/lang/RuntimeException", "java/lang/Exception"]).filter goodWord)
def wsL_deal_r1 : List Cond := [Cond.classLink RL 13 "java/lang/IndexOutOfBoundsException", Cond.classLink RL 15 "java/lang/IllegalArgumentException", Cond.classLink RL 24 "java/lang/IllegalStateException", Cond.methodLink RL 32 yX5_deal, Cond.instanceMethod yX5_deal, Cond.selects RX5 yX5_deal yX5_deal, Cond.initialized RX5, Cond.code yX5_deal cX5_deal 12 (some .int), Cond.classLink RX5 57 "java/lang/IllegalStateException", Cond.initialized "java/lang/IllegalStateException", Cond.constant RX5 80 (1000000), Cond.fieldLink RX5 81 "Forwardroll" "dealCount" "I", Cond.fieldLink RX5 34 "Forwardroll" "deals" "[LForwardroll$Deal;", Cond.fieldLink RX5 12 "Forwardroll" "calendar" "LForwardroll$Calendar;", Cond.classLink RX5 32 RX4, Cond.instantiable RX4 7, Cond.initialized RX4, Cond.methodLink RX5 68 yX5_customerNumbered, Cond.instanceMethod yX5_customerNumbered, Cond.selects RX5 yX5_customerNumbered yX5_customerNumbered, Cond.code yX5_customerNumbered cX5_customerNumbered 3 (some (.object "Forwardroll$Customer")), Cond.classLink RX5 200 "java/lang/IndexOutOfBoundsException", Cond.initialized "java/lang/IndexOutOfBoundsException", Cond.fieldLink RX5 27 "Forwardroll" "customers" "[LForwardroll$Customer;"]
def wsL_deal_r2 : List Cond := [Cond.methodLink RX5 84 yX5_isIndex, Cond.static yX5_isIndex, Cond.code yX5_isIndex cX5_isIndex 2 (some .boolean), Cond.methodLink RX5 38 yX5_currencyNumbered, Cond.instanceMethod yX5_currencyNumbered, Cond.selects RX5 yX5_currencyNumbered yX5_currencyNumbered, Cond.code yX5_currencyNumbered cX5_currencyNumbered 3 (some (.object "Forwardroll$Currency")), Cond.fieldLink RX5 18 "Forwardroll" "currencies" "[LForwardroll$Currency;", Cond.methodLink RX5 43 yX5_requireRange, Cond.static yX5_requireRange, Cond.code yX5_requireRange cX5_requireRange 3 none, Cond.classLink RX5 209 "java/lang/IllegalArgumentException", Cond.initialized "java/lang/IllegalArgumentException", Cond.methodLink RX5 76 yX2_forwardRate, Cond.instanceMethod yX2_forwardRate, Cond.selects RX2 yX2_forwardRate yX2_forwardRate, Cond.initialized RX2, Cond.code yX2_forwardRate cX2_forwardRate 2 (some .int), Cond.fieldLink RX2 9 "Forwardroll$Currency" "spotRate" "I", Cond.methodLink RX2 18 yX2_laterRate, Cond.instanceMethod yX2_laterRate, Cond.selects RX2 yX2_laterRate yX2_laterRate, Cond.code yX2_laterRate cX2_laterRate 3 (some .int), Cond.fieldLink RX2 22 "Forwardroll$Currency" "points" "I"]
def wsL_deal_r3 : List Cond := [Cond.methodLink RX2 25 Lib.Math.max.name, Cond.static Lib.Math.max.name, Cond.initialized "java/lang/Math", Cond.code Lib.Math.max.name Lib.Math.max.code 2 (some .int), Cond.methodLink RX5 90 yX4_init, Cond.instanceMethod yX4_init, Cond.code yX4_init cX4_init 8 none, Cond.methodLink RX4 3 objectInit, Cond.instanceMethod objectInit, Cond.code objectInit ⟨#[0xb1]⟩ 1 none, Cond.fieldLink RX4 9 "Forwardroll$Deal" "customer" "LForwardroll$Customer;", Cond.fieldLink RX4 15 "Forwardroll$Deal" "currency" "LForwardroll$Currency;", Cond.fieldLink RX4 19 "Forwardroll$Deal" "buys" "Z", Cond.fieldLink RX4 23 "Forwardroll$Deal" "amountLeft" "I", Cond.fieldLink RX4 27 "Forwardroll$Deal" "agreedRate" "I", Cond.fieldLink RX4 30 "Forwardroll$Deal" "firstDay" "I", Cond.fieldLink RX4 33 "Forwardroll$Deal" "lastDay" "I", Cond.methodLink RX5 93 yX5_exposureWith, Cond.instanceMethod yX5_exposureWith, Cond.selects RX5 yX5_exposureWith yX5_exposureWith, Cond.code yX5_exposureWith cX5_exposureWith 4 (some .long), Cond.methodLink RX5 172 yX5_lossOfAll, Cond.instanceMethod yX5_lossOfAll, Cond.selects RX5 yX5_lossOfAll yX5_lossOfAll]
def wsL_deal_r4 : List Cond := [Cond.code yX5_lossOfAll cX5_lossOfAll 9 (some .long), Cond.methodLink RX5 219 yX4_shiftedLoss, Cond.instanceMethod yX4_shiftedLoss, Cond.selects RX4 yX4_shiftedLoss yX4_shiftedLoss, Cond.code yX4_shiftedLoss cX4_shiftedLoss 4 (some .long), Cond.methodLink RX4 49 Lib.Math.max.name, Cond.methodLink RX4 42 yX4_marketRate, Cond.instanceMethod yX4_marketRate, Cond.selects RX4 yX4_marketRate yX4_marketRate, Cond.code yX4_marketRate cX4_marketRate 2 (some .int), Cond.methodLink RX4 36 yX2_forwardRate, Cond.methodLink RX4 45 yX4_gainAt, Cond.instanceMethod yX4_gainAt, Cond.selects RX4 yX4_gainAt yX4_gainAt, Cond.code yX4_gainAt cX4_gainAt 4 (some .long), Cond.static yX5_homeAmount, Cond.code yX5_homeAmount cX5_homeAmount 2 (some .long), Cond.constantLong RX5 227 (10000), Cond.methodLink RX5 176 yX5_worseLoss, Cond.static yX5_worseLoss, Cond.code yX5_worseLoss cX5_worseLoss 4 (some .long), Cond.methodLink RX5 222 Lib.MathLoose.max_long.x, Cond.static Lib.MathLoose.max_long.x, Cond.code Lib.MathLoose.max_long.x Lib.MathLoose.max_long.code 4 (some .long)]
def wsL_deal : List Cond := .codeWith yL_deal cL_deal 9 (some .int) [(0, 18, 21, 13), (0, 18, 25, 15), (0, 18, 29, 24)] :: ((wsL_deal_r1 ++ (wsL_deal_r2 ++ (wsL_deal_r3 ++ wsL_deal_r4))) ++ wsX50 ++ wsX10 ++ wsX40 ++ wsX30 ++ wsX20 ++ (vx_atS RX5 61 "java/lang/IllegalStateException" ["java/lang/RuntimeException", "java/lang/Exception"]).filter goodWord ++ (vx_atS RX5 204 "java/lang/IndexOutOfBoundsException" ["java/lang/RuntimeException", "java/lang/Exception"]).filter goodWord ++ (vx_atS RX5 213 "java/lang/IllegalArgumentException" ["java/lang/RuntimeException", "java/lang/Exception"]).filter goodWord)
def wsL_draw_r1 : List Cond := [Cond.classLink RL 13 "java/lang/IndexOutOfBoundsException", Cond.classLink RL 15 "java/lang/IllegalArgumentException", Cond.methodLink RL 36 yX5_draw, Cond.instanceMethod yX5_draw, Cond.selects RX5 yX5_draw yX5_draw, Cond.initialized RX5, Cond.code yX5_draw cX5_draw 8 (some .int), Cond.fieldLink RX5 12 "Forwardroll" "calendar" "LForwardroll$Calendar;", Cond.methodLink RX5 99 yX5_dealNumbered, Cond.instanceMethod yX5_dealNumbered, Cond.selects RX5 yX5_dealNumbered yX5_dealNumbered, Cond.code yX5_dealNumbered cX5_dealNumbered 3 (some (.object "Forwardroll$Deal")), Cond.classLink RX5 200 "java/lang/IndexOutOfBoundsException", Cond.initialized "java/lang/IndexOutOfBoundsException", Cond.fieldLink RX5 34 "Forwardroll" "deals" "[LForwardroll$Deal;", Cond.methodLink RX5 84 yX5_isIndex, Cond.static yX5_isIndex, Cond.code yX5_isIndex cX5_isIndex 2 (some .boolean), Cond.methodLink RX5 43 yX5_requireRange, Cond.static yX5_requireRange, Cond.code yX5_requireRange cX5_requireRange 3 none, Cond.classLink RX5 209 "java/lang/IllegalArgumentException", Cond.initialized "java/lang/IllegalArgumentException", Cond.methodLink RX5 106 yX4_drawingRate]
def wsL_draw_r2 : List Cond := [Cond.instanceMethod yX4_drawingRate, Cond.selects RX4 yX4_drawingRate yX4_drawingRate, Cond.initialized RX4, Cond.code yX4_drawingRate cX4_drawingRate 2 (some .int), Cond.fieldLink RX4 30 "Forwardroll$Deal" "firstDay" "I", Cond.fieldLink RX4 15 "Forwardroll$Deal" "currency" "LForwardroll$Currency;", Cond.fieldLink RX4 27 "Forwardroll$Deal" "agreedRate" "I", Cond.methodLink RX4 55 yX2_laterRate, Cond.instanceMethod yX2_laterRate, Cond.selects RX2 yX2_laterRate yX2_laterRate, Cond.initialized RX2, Cond.code yX2_laterRate cX2_laterRate 3 (some .int), Cond.fieldLink RX2 22 "Forwardroll$Currency" "points" "I", Cond.methodLink RX2 25 Lib.Math.max.name, Cond.static Lib.Math.max.name, Cond.initialized "java/lang/Math", Cond.code Lib.Math.max.name Lib.Math.max.code 2 (some .int), Cond.methodLink RX5 109 yX5_homeAmount, Cond.static yX5_homeAmount, Cond.code yX5_homeAmount cX5_homeAmount 2 (some .long), Cond.constantLong RX5 227 (10000), Cond.methodLink RX5 113 yX1_nextBusinessDay, Cond.instanceMethod yX1_nextBusinessDay, Cond.selects RX1 yX1_nextBusinessDay yX1_nextBusinessDay]
def wsL_draw_r3 : List Cond := [Cond.initialized RX1, Cond.code yX1_nextBusinessDay cX1_nextBusinessDay 2 (some .int), Cond.fieldLink RX1 19 "Forwardroll$Calendar" "today" "I", Cond.methodLink RX1 23 yX1_isBusinessDay, Cond.instanceMethod yX1_isBusinessDay, Cond.selects RX1 yX1_isBusinessDay yX1_isBusinessDay, Cond.code yX1_isBusinessDay cX1_isBusinessDay 3 (some .boolean), Cond.fieldLink RX1 9 "Forwardroll$Calendar" "holidays" "[Z", Cond.methodLink RX5 132 yX3_book, Cond.instanceMethod yX3_book, Cond.selects RX3 yX3_book yX3_book, Cond.initialized RX3, Cond.code yX3_book cX3_book 6 none, Cond.fieldLink RX3 18 "Forwardroll$Customer" "netAmounts" "[LForwardroll$Amounts;", Cond.classLink RX3 16 RX0, Cond.instantiable RX0 1, Cond.initialized RX0, Cond.instanceMethod yX0_init, Cond.code yX0_init cX0_init 1 none, Cond.methodLink RX0 3 objectInit, Cond.instanceMethod objectInit, Cond.code objectInit ⟨#[0xb1]⟩ 1 none, Cond.arrayClass .long, Cond.fieldLink RX0 9 "Forwardroll$Amounts" "byMoney" "[J"]
def wsL_draw_r4 : List Cond := [Cond.methodLink RX3 31 yX0_add, Cond.instanceMethod yX0_add, Cond.selects RX0 yX0_add yX0_add, Cond.code yX0_add cX0_add 4 none]
def wsL_draw : List Cond := .codeWith yL_draw cL_draw 5 (some .int) [(0, 10, 13, 13), (0, 10, 17, 15)] :: ((wsL_draw_r1 ++ (wsL_draw_r2 ++ (wsL_draw_r3 ++ wsL_draw_r4))) ++ wsX40 ++ wsX50 ++ wsX10 ++ wsX20 ++ wsX30 ++ wsX00 ++ (vx_atS RX5 204 "java/lang/IndexOutOfBoundsException" ["java/lang/RuntimeException", "java/lang/Exception"]).filter goodWord ++ (vx_atS RX5 213 "java/lang/IllegalArgumentException" ["java/lang/RuntimeException", "java/lang/Exception"]).filter goodWord)
def wsL_roll_r1 : List Cond := [Cond.classLink RL 13 "java/lang/IndexOutOfBoundsException", Cond.classLink RL 15 "java/lang/IllegalArgumentException", Cond.classLink RL 24 "java/lang/IllegalStateException", Cond.methodLink RL 39 yX5_roll, Cond.instanceMethod yX5_roll, Cond.selects RX5 yX5_roll yX5_roll, Cond.initialized RX5, Cond.code yX5_roll cX5_roll 5 (some .int), Cond.classLink RX5 57 "java/lang/IllegalStateException", Cond.initialized "java/lang/IllegalStateException", Cond.fieldLink RX5 12 "Forwardroll" "calendar" "LForwardroll$Calendar;", Cond.methodLink RX5 99 yX5_dealNumbered, Cond.instanceMethod yX5_dealNumbered, Cond.selects RX5 yX5_dealNumbered yX5_dealNumbered, Cond.code yX5_dealNumbered cX5_dealNumbered 3 (some (.object "Forwardroll$Deal")), Cond.classLink RX5 200 "java/lang/IndexOutOfBoundsException", Cond.initialized "java/lang/IndexOutOfBoundsException", Cond.fieldLink RX5 34 "Forwardroll" "deals" "[LForwardroll$Deal;", Cond.methodLink RX5 84 yX5_isIndex, Cond.static yX5_isIndex, Cond.code yX5_isIndex cX5_isIndex 2 (some .boolean), Cond.methodLink RX5 43 yX5_requireRange, Cond.static yX5_requireRange, Cond.code yX5_requireRange cX5_requireRange 3 none]
def wsL_roll_r2 : List Cond := [Cond.classLink RX5 209 "java/lang/IllegalArgumentException", Cond.initialized "java/lang/IllegalArgumentException", Cond.methodLink RX5 136 yX5_requireLeft, Cond.static yX5_requireLeft, Cond.code yX5_requireLeft cX5_requireLeft 1 none, Cond.methodLink RX5 145 yX5_bookGain, Cond.instanceMethod yX5_bookGain, Cond.selects RX5 yX5_bookGain yX5_bookGain, Cond.code yX5_bookGain cX5_bookGain 4 (some .long), Cond.methodLink RX5 168 yX4_marketGain, Cond.instanceMethod yX4_marketGain, Cond.selects RX4 yX4_marketGain yX4_marketGain, Cond.initialized RX4, Cond.code yX4_marketGain cX4_marketGain 2 (some .long), Cond.methodLink RX4 42 yX4_marketRate, Cond.instanceMethod yX4_marketRate, Cond.selects RX4 yX4_marketRate yX4_marketRate, Cond.code yX4_marketRate cX4_marketRate 2 (some .int), Cond.fieldLink RX4 15 "Forwardroll$Deal" "currency" "LForwardroll$Currency;", Cond.fieldLink RX4 33 "Forwardroll$Deal" "lastDay" "I", Cond.methodLink RX4 36 yX2_forwardRate, Cond.instanceMethod yX2_forwardRate, Cond.selects RX2 yX2_forwardRate yX2_forwardRate, Cond.initialized RX2]
def wsL_roll_r3 : List Cond := [Cond.code yX2_forwardRate cX2_forwardRate 2 (some .int), Cond.fieldLink RX2 9 "Forwardroll$Currency" "spotRate" "I", Cond.methodLink RX2 18 yX2_laterRate, Cond.instanceMethod yX2_laterRate, Cond.selects RX2 yX2_laterRate yX2_laterRate, Cond.code yX2_laterRate cX2_laterRate 3 (some .int), Cond.fieldLink RX2 22 "Forwardroll$Currency" "points" "I", Cond.methodLink RX2 25 Lib.Math.max.name, Cond.static Lib.Math.max.name, Cond.initialized "java/lang/Math", Cond.code Lib.Math.max.name Lib.Math.max.code 2 (some .int), Cond.methodLink RX4 45 yX4_gainAt, Cond.instanceMethod yX4_gainAt, Cond.selects RX4 yX4_gainAt yX4_gainAt, Cond.code yX4_gainAt cX4_gainAt 4 (some .long), Cond.fieldLink RX4 23 "Forwardroll$Deal" "amountLeft" "I", Cond.fieldLink RX4 27 "Forwardroll$Deal" "agreedRate" "I", Cond.fieldLink RX4 19 "Forwardroll$Deal" "buys" "Z", Cond.static yX5_homeAmount, Cond.code yX5_homeAmount cX5_homeAmount 2 (some .long), Cond.constantLong RX5 227 (10000), Cond.methodLink RX5 113 yX1_nextBusinessDay, Cond.instanceMethod yX1_nextBusinessDay, Cond.selects RX1 yX1_nextBusinessDay yX1_nextBusinessDay]
def wsL_roll_r4 : List Cond := [Cond.initialized RX1, Cond.code yX1_nextBusinessDay cX1_nextBusinessDay 2 (some .int), Cond.fieldLink RX1 19 "Forwardroll$Calendar" "today" "I", Cond.methodLink RX1 23 yX1_isBusinessDay, Cond.instanceMethod yX1_isBusinessDay, Cond.selects RX1 yX1_isBusinessDay yX1_isBusinessDay, Cond.code yX1_isBusinessDay cX1_isBusinessDay 3 (some .boolean), Cond.fieldLink RX1 9 "Forwardroll$Calendar" "holidays" "[Z", Cond.methodLink RX5 132 yX3_book, Cond.instanceMethod yX3_book, Cond.selects RX3 yX3_book yX3_book, Cond.initialized RX3, Cond.code yX3_book cX3_book 6 none, Cond.fieldLink RX3 18 "Forwardroll$Customer" "netAmounts" "[LForwardroll$Amounts;", Cond.classLink RX3 16 RX0, Cond.instantiable RX0 1, Cond.initialized RX0, Cond.instanceMethod yX0_init, Cond.code yX0_init cX0_init 1 none, Cond.methodLink RX0 3 objectInit, Cond.instanceMethod objectInit, Cond.code objectInit ⟨#[0xb1]⟩ 1 none, Cond.arrayClass .long, Cond.fieldLink RX0 9 "Forwardroll$Amounts" "byMoney" "[J"]
def wsL_roll_r5 : List Cond := [Cond.methodLink RX3 31 yX0_add, Cond.instanceMethod yX0_add, Cond.selects RX0 yX0_add yX0_add, Cond.code yX0_add cX0_add 4 none, Cond.methodLink RX5 149 yX4_moveWindow, Cond.instanceMethod yX4_moveWindow, Cond.selects RX4 yX4_moveWindow yX4_moveWindow, Cond.code yX4_moveWindow cX4_moveWindow 2 none, Cond.fieldLink RX4 30 "Forwardroll$Deal" "firstDay" "I", Cond.methodLink RX5 152 yX4_marketRate, Cond.methodLink RX5 158 yX2_laterRate]
def wsL_roll : List Cond := .codeWith yL_roll cL_roll 6 (some .int) [(0, 12, 15, 13), (0, 12, 19, 15), (0, 12, 23, 24)] :: ((wsL_roll_r1 ++ (wsL_roll_r2 ++ (wsL_roll_r3 ++ (wsL_roll_r4 ++ wsL_roll_r5)))) ++ wsX40 ++ wsX50 ++ wsX10 ++ wsX20 ++ wsX30 ++ wsX00 ++ (vx_atS RX5 61 "java/lang/IllegalStateException" ["java/lang/RuntimeException", "java/lang/Exception"]).filter goodWord ++ (vx_atS RX5 204 "java/lang/IndexOutOfBoundsException" ["java/lang/RuntimeException", "java/lang/Exception"]).filter goodWord ++ (vx_atS RX5 213 "java/lang/IllegalArgumentException" ["java/lang/RuntimeException", "java/lang/Exception"]).filter goodWord)
def wsL_closeOut_r1 : List Cond := [Cond.classLink RL 13 "java/lang/IndexOutOfBoundsException", Cond.classLink RL 24 "java/lang/IllegalStateException", Cond.methodLink RL 43 yX5_closeOut, Cond.instanceMethod yX5_closeOut, Cond.selects RX5 yX5_closeOut yX5_closeOut, Cond.initialized RX5, Cond.code yX5_closeOut cX5_closeOut 3 (some .long), Cond.methodLink RX5 99 yX5_dealNumbered, Cond.instanceMethod yX5_dealNumbered, Cond.selects RX5 yX5_dealNumbered yX5_dealNumbered, Cond.code yX5_dealNumbered cX5_dealNumbered 3 (some (.object "Forwardroll$Deal")), Cond.classLink RX5 200 "java/lang/IndexOutOfBoundsException", Cond.initialized "java/lang/IndexOutOfBoundsException", Cond.fieldLink RX5 34 "Forwardroll" "deals" "[LForwardroll$Deal;", Cond.methodLink RX5 84 yX5_isIndex, Cond.static yX5_isIndex, Cond.code yX5_isIndex cX5_isIndex 2 (some .boolean), Cond.methodLink RX5 136 yX5_requireLeft, Cond.static yX5_requireLeft, Cond.code yX5_requireLeft cX5_requireLeft 1 none, Cond.classLink RX5 57 "java/lang/IllegalStateException", Cond.initialized "java/lang/IllegalStateException", Cond.methodLink RX5 162 yX5_endDeal, Cond.instanceMethod yX5_endDeal]
def wsL_closeOut_r2 : List Cond := [Cond.selects RX5 yX5_endDeal yX5_endDeal, Cond.code yX5_endDeal cX5_endDeal 4 (some .long), Cond.methodLink RX5 145 yX5_bookGain, Cond.instanceMethod yX5_bookGain, Cond.selects RX5 yX5_bookGain yX5_bookGain, Cond.code yX5_bookGain cX5_bookGain 4 (some .long), Cond.fieldLink RX5 12 "Forwardroll" "calendar" "LForwardroll$Calendar;", Cond.methodLink RX5 168 yX4_marketGain, Cond.instanceMethod yX4_marketGain, Cond.selects RX4 yX4_marketGain yX4_marketGain, Cond.initialized RX4, Cond.code yX4_marketGain cX4_marketGain 2 (some .long), Cond.methodLink RX4 42 yX4_marketRate, Cond.instanceMethod yX4_marketRate, Cond.selects RX4 yX4_marketRate yX4_marketRate, Cond.code yX4_marketRate cX4_marketRate 2 (some .int), Cond.fieldLink RX4 15 "Forwardroll$Deal" "currency" "LForwardroll$Currency;", Cond.fieldLink RX4 33 "Forwardroll$Deal" "lastDay" "I", Cond.methodLink RX4 36 yX2_forwardRate, Cond.instanceMethod yX2_forwardRate, Cond.selects RX2 yX2_forwardRate yX2_forwardRate, Cond.initialized RX2, Cond.code yX2_forwardRate cX2_forwardRate 2 (some .int), Cond.fieldLink RX2 9 "Forwardroll$Currency" "spotRate" "I"]
def wsL_closeOut_r3 : List Cond := [Cond.methodLink RX2 18 yX2_laterRate, Cond.instanceMethod yX2_laterRate, Cond.selects RX2 yX2_laterRate yX2_laterRate, Cond.code yX2_laterRate cX2_laterRate 3 (some .int), Cond.fieldLink RX2 22 "Forwardroll$Currency" "points" "I", Cond.methodLink RX2 25 Lib.Math.max.name, Cond.static Lib.Math.max.name, Cond.initialized "java/lang/Math", Cond.code Lib.Math.max.name Lib.Math.max.code 2 (some .int), Cond.methodLink RX4 45 yX4_gainAt, Cond.instanceMethod yX4_gainAt, Cond.selects RX4 yX4_gainAt yX4_gainAt, Cond.code yX4_gainAt cX4_gainAt 4 (some .long), Cond.fieldLink RX4 23 "Forwardroll$Deal" "amountLeft" "I", Cond.fieldLink RX4 27 "Forwardroll$Deal" "agreedRate" "I", Cond.fieldLink RX4 19 "Forwardroll$Deal" "buys" "Z", Cond.static yX5_homeAmount, Cond.code yX5_homeAmount cX5_homeAmount 2 (some .long), Cond.constantLong RX5 227 (10000), Cond.methodLink RX5 113 yX1_nextBusinessDay, Cond.instanceMethod yX1_nextBusinessDay, Cond.selects RX1 yX1_nextBusinessDay yX1_nextBusinessDay, Cond.initialized RX1, Cond.code yX1_nextBusinessDay cX1_nextBusinessDay 2 (some .int)]
def wsL_closeOut_r4 : List Cond := [Cond.fieldLink RX1 19 "Forwardroll$Calendar" "today" "I", Cond.methodLink RX1 23 yX1_isBusinessDay, Cond.instanceMethod yX1_isBusinessDay, Cond.selects RX1 yX1_isBusinessDay yX1_isBusinessDay, Cond.code yX1_isBusinessDay cX1_isBusinessDay 3 (some .boolean), Cond.fieldLink RX1 9 "Forwardroll$Calendar" "holidays" "[Z", Cond.methodLink RX5 132 yX3_book, Cond.instanceMethod yX3_book, Cond.selects RX3 yX3_book yX3_book, Cond.initialized RX3, Cond.code yX3_book cX3_book 6 none, Cond.fieldLink RX3 18 "Forwardroll$Customer" "netAmounts" "[LForwardroll$Amounts;", Cond.classLink RX3 16 RX0, Cond.instantiable RX0 1, Cond.initialized RX0, Cond.instanceMethod yX0_init, Cond.code yX0_init cX0_init 1 none, Cond.methodLink RX0 3 objectInit, Cond.instanceMethod objectInit, Cond.code objectInit ⟨#[0xb1]⟩ 1 none, Cond.arrayClass .long, Cond.fieldLink RX0 9 "Forwardroll$Amounts" "byMoney" "[J", Cond.methodLink RX3 31 yX0_add, Cond.instanceMethod yX0_add]
def wsL_closeOut_r5 : List Cond := [Cond.selects RX0 yX0_add yX0_add, Cond.code yX0_add cX0_add 4 none]
def wsL_closeOut : List Cond := .codeWith yL_closeOut cL_closeOut 4 (some .int) [(0, 8, 11, 13), (0, 8, 14, 24)] :: ((wsL_closeOut_r1 ++ (wsL_closeOut_r2 ++ (wsL_closeOut_r3 ++ (wsL_closeOut_r4 ++ wsL_closeOut_r5)))) ++ wsX50 ++ wsX40 ++ wsX10 ++ wsX20 ++ wsX30 ++ wsX00 ++ (vx_atS RX5 204 "java/lang/IndexOutOfBoundsException" ["java/lang/RuntimeException", "java/lang/Exception"]).filter goodWord ++ (vx_atS RX5 61 "java/lang/IllegalStateException" ["java/lang/RuntimeException", "java/lang/Exception"]).filter goodWord)
def wsL_left : List Cond := .codeWith yL_left cL_left 4 (some .int) [(0, 9, 12, 13)] :: ([.classLink RL 13 "java/lang/IndexOutOfBoundsException", .methodLink RL 47 yX5_left, .instanceMethod yX5_left, .selects RX5 yX5_left yX5_left, .initialized RX5, .code yX5_left cX5_left 2 (some .int), .methodLink RX5 99 yX5_dealNumbered, .instanceMethod yX5_dealNumbered, .selects RX5 yX5_dealNumbered yX5_dealNumbered, .code yX5_dealNumbered cX5_dealNumbered 3 (some (.object "Forwardroll$Deal")), .classLink RX5 200 "java/lang/IndexOutOfBoundsException", .initialized "java/lang/IndexOutOfBoundsException", .fieldLink RX5 34 "Forwardroll" "deals" "[LForwardroll$Deal;", .methodLink RX5 84 yX5_isIndex, .static yX5_isIndex, .code yX5_isIndex cX5_isIndex 2 (some .boolean)] ++ wsX40 ++ wsX50 ++ (vx_atS RX5 204 "java/lang/IndexOutOfBoundsException" ["java/lang/RuntimeException", "java/lang/Exception"]).filter goodWord)
def wsL_rate : List Cond := .codeWith yL_rate cL_rate 4 (some .int) [(0, 9, 12, 13)] :: ([.classLink RL 13 "java/lang/IndexOutOfBoundsException", .methodLink RL 51 yX5_rate, .instanceMethod yX5_rate, .selects RX5 yX5_rate yX5_rate, .initialized RX5, .code yX5_rate cX5_rate 2 (some .int), .methodLink RX5 99 yX5_dealNumbered, .instanceMethod yX5_dealNumbered, .selects RX5 yX5_dealNumbered yX5_dealNumbered, .code yX5_dealNumbered cX5_dealNumbered 3 (some (.object "Forwardroll$Deal")), .classLink RX5 200 "java/lang/IndexOutOfBoundsException", .initialized "java/lang/IndexOutOfBoundsException", .fieldLink RX5 34 "Forwardroll" "deals" "[LForwardroll$Deal;", .methodLink RX5 84 yX5_isIndex, .static yX5_isIndex, .code yX5_isIndex cX5_isIndex 2 (some .boolean)] ++ wsX40 ++ wsX50 ++ (vx_atS RX5 204 "java/lang/IndexOutOfBoundsException" ["java/lang/RuntimeException", "java/lang/Exception"]).filter goodWord)
def wsL_window : List Cond := .codeWith yL_window cL_window 4 (some .int) [(0, 9, 12, 13)] :: ([.classLink RL 13 "java/lang/IndexOutOfBoundsException", .methodLink RL 54 yX5_window, .instanceMethod yX5_window, .selects RX5 yX5_window yX5_window, .initialized RX5, .code yX5_window cX5_window 3 (some .int), .methodLink RX5 99 yX5_dealNumbered, .instanceMethod yX5_dealNumbered, .selects RX5 yX5_dealNumbered yX5_dealNumbered, .code yX5_dealNumbered cX5_dealNumbered 3 (some (.object "Forwardroll$Deal")), .classLink RX5 200 "java/lang/IndexOutOfBoundsException", .initialized "java/lang/IndexOutOfBoundsException", .fieldLink RX5 34 "Forwardroll" "deals" "[LForwardroll$Deal;", .methodLink RX5 84 yX5_isIndex, .static yX5_isIndex, .code yX5_isIndex cX5_isIndex 2 (some .boolean)] ++ wsX40 ++ wsX50 ++ (vx_atS RX5 204 "java/lang/IndexOutOfBoundsException" ["java/lang/RuntimeException", "java/lang/Exception"]).filter goodWord)
def wsL_gain_r1 : List Cond := [Cond.classLink RL 13 "java/lang/IndexOutOfBoundsException", Cond.methodLink RL 57 yX5_gain, Cond.instanceMethod yX5_gain, Cond.selects RX5 yX5_gain yX5_gain, Cond.initialized RX5, Cond.code yX5_gain cX5_gain 2 (some .long), Cond.fieldLink RX5 12 "Forwardroll" "calendar" "LForwardroll$Calendar;", Cond.methodLink RX5 99 yX5_dealNumbered, Cond.instanceMethod yX5_dealNumbered, Cond.selects RX5 yX5_dealNumbered yX5_dealNumbered, Cond.code yX5_dealNumbered cX5_dealNumbered 3 (some (.object "Forwardroll$Deal")), Cond.classLink RX5 200 "java/lang/IndexOutOfBoundsException", Cond.initialized "java/lang/IndexOutOfBoundsException", Cond.fieldLink RX5 34 "Forwardroll" "deals" "[LForwardroll$Deal;", Cond.methodLink RX5 84 yX5_isIndex, Cond.static yX5_isIndex, Cond.code yX5_isIndex cX5_isIndex 2 (some .boolean), Cond.methodLink RX5 168 yX4_marketGain, Cond.instanceMethod yX4_marketGain, Cond.selects RX4 yX4_marketGain yX4_marketGain, Cond.initialized RX4, Cond.code yX4_marketGain cX4_marketGain 2 (some .long), Cond.methodLink RX4 42 yX4_marketRate, Cond.instanceMethod yX4_marketRate]
def wsL_gain_r2 : List Cond := [Cond.selects RX4 yX4_marketRate yX4_marketRate, Cond.code yX4_marketRate cX4_marketRate 2 (some .int), Cond.fieldLink RX4 15 "Forwardroll$Deal" "currency" "LForwardroll$Currency;", Cond.fieldLink RX4 33 "Forwardroll$Deal" "lastDay" "I", Cond.methodLink RX4 36 yX2_forwardRate, Cond.instanceMethod yX2_forwardRate, Cond.selects RX2 yX2_forwardRate yX2_forwardRate, Cond.initialized RX2, Cond.code yX2_forwardRate cX2_forwardRate 2 (some .int), Cond.fieldLink RX2 9 "Forwardroll$Currency" "spotRate" "I", Cond.methodLink RX2 18 yX2_laterRate, Cond.instanceMethod yX2_laterRate, Cond.selects RX2 yX2_laterRate yX2_laterRate, Cond.code yX2_laterRate cX2_laterRate 3 (some .int), Cond.fieldLink RX2 22 "Forwardroll$Currency" "points" "I", Cond.methodLink RX2 25 Lib.Math.max.name, Cond.static Lib.Math.max.name, Cond.initialized "java/lang/Math", Cond.code Lib.Math.max.name Lib.Math.max.code 2 (some .int), Cond.methodLink RX4 45 yX4_gainAt, Cond.instanceMethod yX4_gainAt, Cond.selects RX4 yX4_gainAt yX4_gainAt, Cond.code yX4_gainAt cX4_gainAt 4 (some .long), Cond.fieldLink RX4 23 "Forwardroll$Deal" "amountLeft" "I"]
def wsL_gain_r3 : List Cond := [Cond.fieldLink RX4 27 "Forwardroll$Deal" "agreedRate" "I", Cond.fieldLink RX4 19 "Forwardroll$Deal" "buys" "Z", Cond.static yX5_homeAmount, Cond.code yX5_homeAmount cX5_homeAmount 2 (some .long), Cond.constantLong RX5 227 (10000)]
def wsL_gain : List Cond := .codeWith yL_gain cL_gain 4 (some .int) [(0, 8, 11, 13)] :: ((wsL_gain_r1 ++ (wsL_gain_r2 ++ wsL_gain_r3)) ++ wsX50 ++ wsX10 ++ wsX40 ++ wsX20 ++ (vx_atS RX5 204 "java/lang/IndexOutOfBoundsException" ["java/lang/RuntimeException", "java/lang/Exception"]).filter goodWord)
def wsL_exposure_r1 : List Cond := [Cond.classLink RL 13 "java/lang/IndexOutOfBoundsException", Cond.methodLink RL 60 yX5_exposure, Cond.instanceMethod yX5_exposure, Cond.selects RX5 yX5_exposure yX5_exposure, Cond.initialized RX5, Cond.code yX5_exposure cX5_exposure 3 (some .long), Cond.methodLink RX5 68 yX5_customerNumbered, Cond.instanceMethod yX5_customerNumbered, Cond.selects RX5 yX5_customerNumbered yX5_customerNumbered, Cond.code yX5_customerNumbered cX5_customerNumbered 3 (some (.object "Forwardroll$Customer")), Cond.classLink RX5 200 "java/lang/IndexOutOfBoundsException", Cond.initialized "java/lang/IndexOutOfBoundsException", Cond.fieldLink RX5 27 "Forwardroll" "customers" "[LForwardroll$Customer;", Cond.methodLink RX5 84 yX5_isIndex, Cond.static yX5_isIndex, Cond.code yX5_isIndex cX5_isIndex 2 (some .boolean), Cond.methodLink RX5 172 yX5_lossOfAll, Cond.instanceMethod yX5_lossOfAll, Cond.selects RX5 yX5_lossOfAll yX5_lossOfAll, Cond.code yX5_lossOfAll cX5_lossOfAll 9 (some .long), Cond.fieldLink RX5 34 "Forwardroll" "deals" "[LForwardroll$Deal;", Cond.fieldLink RX5 12 "Forwardroll" "calendar" "LForwardroll$Calendar;", Cond.methodLink RX5 219 yX4_shiftedLoss, Cond.instanceMethod yX4_shiftedLoss]
def wsL_exposure_r2 : List Cond := [Cond.selects RX4 yX4_shiftedLoss yX4_shiftedLoss, Cond.initialized RX4, Cond.code yX4_shiftedLoss cX4_shiftedLoss 4 (some .long), Cond.methodLink RX4 49 Lib.Math.max.name, Cond.static Lib.Math.max.name, Cond.initialized "java/lang/Math", Cond.code Lib.Math.max.name Lib.Math.max.code 2 (some .int), Cond.methodLink RX4 42 yX4_marketRate, Cond.instanceMethod yX4_marketRate, Cond.selects RX4 yX4_marketRate yX4_marketRate, Cond.code yX4_marketRate cX4_marketRate 2 (some .int), Cond.fieldLink RX4 15 "Forwardroll$Deal" "currency" "LForwardroll$Currency;", Cond.fieldLink RX4 33 "Forwardroll$Deal" "lastDay" "I", Cond.methodLink RX4 36 yX2_forwardRate, Cond.instanceMethod yX2_forwardRate, Cond.selects RX2 yX2_forwardRate yX2_forwardRate, Cond.initialized RX2, Cond.code yX2_forwardRate cX2_forwardRate 2 (some .int), Cond.fieldLink RX2 9 "Forwardroll$Currency" "spotRate" "I", Cond.methodLink RX2 18 yX2_laterRate, Cond.instanceMethod yX2_laterRate, Cond.selects RX2 yX2_laterRate yX2_laterRate, Cond.code yX2_laterRate cX2_laterRate 3 (some .int), Cond.fieldLink RX2 22 "Forwardroll$Currency" "points" "I"]
def wsL_exposure_r3 : List Cond := [Cond.methodLink RX2 25 Lib.Math.max.name, Cond.methodLink RX4 45 yX4_gainAt, Cond.instanceMethod yX4_gainAt, Cond.selects RX4 yX4_gainAt yX4_gainAt, Cond.code yX4_gainAt cX4_gainAt 4 (some .long), Cond.fieldLink RX4 23 "Forwardroll$Deal" "amountLeft" "I", Cond.fieldLink RX4 27 "Forwardroll$Deal" "agreedRate" "I", Cond.fieldLink RX4 19 "Forwardroll$Deal" "buys" "Z", Cond.static yX5_homeAmount, Cond.code yX5_homeAmount cX5_homeAmount 2 (some .long), Cond.constantLong RX5 227 (10000), Cond.methodLink RX5 176 yX5_worseLoss, Cond.static yX5_worseLoss, Cond.code yX5_worseLoss cX5_worseLoss 4 (some .long), Cond.methodLink RX5 222 Lib.MathLoose.max_long.x, Cond.static Lib.MathLoose.max_long.x, Cond.code Lib.MathLoose.max_long.x Lib.MathLoose.max_long.code 4 (some .long)]
def wsL_exposure : List Cond := .codeWith yL_exposure cL_exposure 4 (some .int) [(0, 8, 11, 13)] :: ((wsL_exposure_r1 ++ (wsL_exposure_r2 ++ wsL_exposure_r3)) ++ wsX50 ++ wsX40 ++ wsX10 ++ wsX20 ++ (vx_atS RX5 204 "java/lang/IndexOutOfBoundsException" ["java/lang/RuntimeException", "java/lang/Exception"]).filter goodWord)
def wsL_due_r1 : List Cond := [Cond.classLink RL 13 "java/lang/IndexOutOfBoundsException", Cond.classLink RL 15 "java/lang/IllegalArgumentException", Cond.methodLink RL 63 yX5_due, Cond.instanceMethod yX5_due, Cond.selects RX5 yX5_due yX5_due, Cond.initialized RX5, Cond.code yX5_due cX5_due 5 (some .long), Cond.fieldLink RX5 12 "Forwardroll" "calendar" "LForwardroll$Calendar;", Cond.methodLink RX5 68 yX5_customerNumbered, Cond.instanceMethod yX5_customerNumbered, Cond.selects RX5 yX5_customerNumbered yX5_customerNumbered, Cond.code yX5_customerNumbered cX5_customerNumbered 3 (some (.object "Forwardroll$Customer")), Cond.classLink RX5 200 "java/lang/IndexOutOfBoundsException", Cond.initialized "java/lang/IndexOutOfBoundsException", Cond.fieldLink RX5 27 "Forwardroll" "customers" "[LForwardroll$Customer;", Cond.methodLink RX5 84 yX5_isIndex, Cond.static yX5_isIndex, Cond.code yX5_isIndex cX5_isIndex 2 (some .boolean), Cond.methodLink RX5 43 yX5_requireRange, Cond.static yX5_requireRange, Cond.code yX5_requireRange cX5_requireRange 3 none, Cond.classLink RX5 209 "java/lang/IllegalArgumentException", Cond.initialized "java/lang/IllegalArgumentException", Cond.methodLink RX5 180 yX3_netAmount]
def wsL_due_r2 : List Cond := [Cond.instanceMethod yX3_netAmount, Cond.selects RX3 yX3_netAmount yX3_netAmount, Cond.initialized RX3, Cond.code yX3_netAmount cX3_netAmount 4 (some .long), Cond.methodLink RX3 35 yX3_netAmountsOf, Cond.instanceMethod yX3_netAmountsOf, Cond.selects RX3 yX3_netAmountsOf yX3_netAmountsOf, Cond.code yX3_netAmountsOf cX3_netAmountsOf 2 (some (.object "Forwardroll$Amounts")), Cond.fieldLink RX3 18 "Forwardroll$Customer" "netAmounts" "[LForwardroll$Amounts;", Cond.methodLink RX3 39 yX0_amountOf, Cond.instanceMethod yX0_amountOf, Cond.selects RX0 yX0_amountOf yX0_amountOf, Cond.initialized RX0, Cond.code yX0_amountOf cX0_amountOf 2 (some .long), Cond.fieldLink RX0 9 "Forwardroll$Amounts" "byMoney" "[J"]
def wsL_due : List Cond := .codeWith yL_due cL_due 6 (some .int) [(0, 11, 14, 13), (0, 11, 18, 15)] :: ((wsL_due_r1 ++ wsL_due_r2) ++ wsX50 ++ wsX10 ++ wsX30 ++ wsX00 ++ (vx_atS RX5 204 "java/lang/IndexOutOfBoundsException" ["java/lang/RuntimeException", "java/lang/Exception"]).filter goodWord ++ (vx_atS RX5 213 "java/lang/IllegalArgumentException" ["java/lang/RuntimeException", "java/lang/Exception"]).filter goodWord)
def wsL_balance_r1 : List Cond := [Cond.classLink RL 13 "java/lang/IndexOutOfBoundsException", Cond.classLink RL 15 "java/lang/IllegalArgumentException", Cond.methodLink RL 67 yX5_balance, Cond.instanceMethod yX5_balance, Cond.selects RX5 yX5_balance yX5_balance, Cond.initialized RX5, Cond.code yX5_balance cX5_balance 4 (some .long), Cond.methodLink RX5 68 yX5_customerNumbered, Cond.instanceMethod yX5_customerNumbered, Cond.selects RX5 yX5_customerNumbered yX5_customerNumbered, Cond.code yX5_customerNumbered cX5_customerNumbered 3 (some (.object "Forwardroll$Customer")), Cond.classLink RX5 200 "java/lang/IndexOutOfBoundsException", Cond.initialized "java/lang/IndexOutOfBoundsException", Cond.fieldLink RX5 27 "Forwardroll" "customers" "[LForwardroll$Customer;", Cond.methodLink RX5 84 yX5_isIndex, Cond.static yX5_isIndex, Cond.code yX5_isIndex cX5_isIndex 2 (some .boolean), Cond.methodLink RX5 43 yX5_requireRange, Cond.static yX5_requireRange, Cond.code yX5_requireRange cX5_requireRange 3 none, Cond.classLink RX5 209 "java/lang/IllegalArgumentException", Cond.initialized "java/lang/IllegalArgumentException", Cond.methodLink RX5 187 yX0_amountOf, Cond.instanceMethod yX0_amountOf]
def wsL_balance_r2 : List Cond := [Cond.selects RX0 yX0_amountOf yX0_amountOf, Cond.initialized RX0, Cond.code yX0_amountOf cX0_amountOf 2 (some .long), Cond.fieldLink RX0 9 "Forwardroll$Amounts" "byMoney" "[J"]
def wsL_balance : List Cond := .codeWith yL_balance cL_balance 5 (some .int) [(0, 9, 12, 13), (0, 9, 16, 15)] :: ((wsL_balance_r1 ++ wsL_balance_r2) ++ wsX30 ++ wsX50 ++ wsX00 ++ (vx_atS RX5 204 "java/lang/IndexOutOfBoundsException" ["java/lang/RuntimeException", "java/lang/Exception"]).filter goodWord ++ (vx_atS RX5 213 "java/lang/IllegalArgumentException" ["java/lang/RuntimeException", "java/lang/Exception"]).filter goodWord)
def wsL_pass_r1 : List Cond := [Cond.classLink RL 15 "java/lang/IllegalArgumentException", Cond.classLink RL 24 "java/lang/IllegalStateException", Cond.methodLink RL 71 yX5_pass, Cond.instanceMethod yX5_pass, Cond.selects RX5 yX5_pass yX5_pass, Cond.initialized RX5, Cond.code yX5_pass cX5_pass 4 (some .int), Cond.classLink RX5 57 "java/lang/IllegalStateException", Cond.initialized "java/lang/IllegalStateException", Cond.fieldLink RX5 12 "Forwardroll" "calendar" "LForwardroll$Calendar;", Cond.methodLink RX5 43 yX5_requireRange, Cond.static yX5_requireRange, Cond.code yX5_requireRange cX5_requireRange 3 none, Cond.classLink RX5 209 "java/lang/IllegalArgumentException", Cond.initialized "java/lang/IllegalArgumentException", Cond.methodLink RX5 194 yX5_endDealsOfToday, Cond.instanceMethod yX5_endDealsOfToday, Cond.selects RX5 yX5_endDealsOfToday yX5_endDealsOfToday, Cond.code yX5_endDealsOfToday cX5_endDealsOfToday 6 (some .int), Cond.fieldLink RX5 34 "Forwardroll" "deals" "[LForwardroll$Deal;", Cond.methodLink RX5 162 yX5_endDeal, Cond.instanceMethod yX5_endDeal, Cond.selects RX5 yX5_endDeal yX5_endDeal, Cond.code yX5_endDeal cX5_endDeal 4 (some .long)]
def wsL_pass_r2 : List Cond := [Cond.methodLink RX5 145 yX5_bookGain, Cond.instanceMethod yX5_bookGain, Cond.selects RX5 yX5_bookGain yX5_bookGain, Cond.code yX5_bookGain cX5_bookGain 4 (some .long), Cond.methodLink RX5 168 yX4_marketGain, Cond.instanceMethod yX4_marketGain, Cond.selects RX4 yX4_marketGain yX4_marketGain, Cond.initialized RX4, Cond.code yX4_marketGain cX4_marketGain 2 (some .long), Cond.methodLink RX4 42 yX4_marketRate, Cond.instanceMethod yX4_marketRate, Cond.selects RX4 yX4_marketRate yX4_marketRate, Cond.code yX4_marketRate cX4_marketRate 2 (some .int), Cond.fieldLink RX4 15 "Forwardroll$Deal" "currency" "LForwardroll$Currency;", Cond.fieldLink RX4 33 "Forwardroll$Deal" "lastDay" "I", Cond.methodLink RX4 36 yX2_forwardRate, Cond.instanceMethod yX2_forwardRate, Cond.selects RX2 yX2_forwardRate yX2_forwardRate, Cond.initialized RX2, Cond.code yX2_forwardRate cX2_forwardRate 2 (some .int), Cond.fieldLink RX2 9 "Forwardroll$Currency" "spotRate" "I", Cond.methodLink RX2 18 yX2_laterRate, Cond.instanceMethod yX2_laterRate, Cond.selects RX2 yX2_laterRate yX2_laterRate]
def wsL_pass_r3 : List Cond := [Cond.code yX2_laterRate cX2_laterRate 3 (some .int), Cond.fieldLink RX2 22 "Forwardroll$Currency" "points" "I", Cond.methodLink RX2 25 Lib.Math.max.name, Cond.static Lib.Math.max.name, Cond.initialized "java/lang/Math", Cond.code Lib.Math.max.name Lib.Math.max.code 2 (some .int), Cond.methodLink RX4 45 yX4_gainAt, Cond.instanceMethod yX4_gainAt, Cond.selects RX4 yX4_gainAt yX4_gainAt, Cond.code yX4_gainAt cX4_gainAt 4 (some .long), Cond.fieldLink RX4 23 "Forwardroll$Deal" "amountLeft" "I", Cond.fieldLink RX4 27 "Forwardroll$Deal" "agreedRate" "I", Cond.fieldLink RX4 19 "Forwardroll$Deal" "buys" "Z", Cond.static yX5_homeAmount, Cond.code yX5_homeAmount cX5_homeAmount 2 (some .long), Cond.constantLong RX5 227 (10000), Cond.methodLink RX5 113 yX1_nextBusinessDay, Cond.instanceMethod yX1_nextBusinessDay, Cond.selects RX1 yX1_nextBusinessDay yX1_nextBusinessDay, Cond.initialized RX1, Cond.code yX1_nextBusinessDay cX1_nextBusinessDay 2 (some .int), Cond.fieldLink RX1 19 "Forwardroll$Calendar" "today" "I", Cond.methodLink RX1 23 yX1_isBusinessDay, Cond.instanceMethod yX1_isBusinessDay]
def wsL_pass_r4 : List Cond := [Cond.selects RX1 yX1_isBusinessDay yX1_isBusinessDay, Cond.code yX1_isBusinessDay cX1_isBusinessDay 3 (some .boolean), Cond.fieldLink RX1 9 "Forwardroll$Calendar" "holidays" "[Z", Cond.static yX5_isIndex, Cond.code yX5_isIndex cX5_isIndex 2 (some .boolean), Cond.methodLink RX5 132 yX3_book, Cond.instanceMethod yX3_book, Cond.selects RX3 yX3_book yX3_book, Cond.initialized RX3, Cond.code yX3_book cX3_book 6 none, Cond.fieldLink RX3 18 "Forwardroll$Customer" "netAmounts" "[LForwardroll$Amounts;", Cond.classLink RX3 16 RX0, Cond.instantiable RX0 1, Cond.initialized RX0, Cond.instanceMethod yX0_init, Cond.code yX0_init cX0_init 1 none, Cond.methodLink RX0 3 objectInit, Cond.instanceMethod objectInit, Cond.code objectInit ⟨#[0xb1]⟩ 1 none, Cond.arrayClass .long, Cond.fieldLink RX0 9 "Forwardroll$Amounts" "byMoney" "[J", Cond.methodLink RX3 31 yX0_add, Cond.instanceMethod yX0_add, Cond.selects RX0 yX0_add yX0_add]
def wsL_pass_r5 : List Cond := [Cond.code yX0_add cX0_add 4 none, Cond.methodLink RX5 197 yX5_settleAll, Cond.instanceMethod yX5_settleAll, Cond.selects RX5 yX5_settleAll yX5_settleAll, Cond.code yX5_settleAll cX5_settleAll 6 none, Cond.fieldLink RX5 27 "Forwardroll" "customers" "[LForwardroll$Customer;", Cond.methodLink RX5 216 yX3_settle, Cond.instanceMethod yX3_settle, Cond.selects RX3 yX3_settle yX3_settle, Cond.code yX3_settle cX3_settle 3 none, Cond.fieldLink RX3 23 "Forwardroll$Customer" "balances" "LForwardroll$Amounts;", Cond.methodLink RX3 35 yX3_netAmountsOf, Cond.instanceMethod yX3_netAmountsOf, Cond.selects RX3 yX3_netAmountsOf yX3_netAmountsOf, Cond.code yX3_netAmountsOf cX3_netAmountsOf 2 (some (.object "Forwardroll$Amounts")), Cond.methodLink RX3 43 yX0_addAll, Cond.instanceMethod yX0_addAll, Cond.selects RX0 yX0_addAll yX0_addAll, Cond.code yX0_addAll cX0_addAll 3 none, Cond.methodLink RX0 19 yX0_amountOf, Cond.instanceMethod yX0_amountOf, Cond.selects RX0 yX0_amountOf yX0_amountOf, Cond.code yX0_amountOf cX0_amountOf 2 (some .long), Cond.methodLink RX0 23 yX0_add]
def wsL_pass : List Cond := .codeWith yL_pass cL_pass 4 (some .int) [(0, 9, 12, 15), (0, 9, 15, 24)] :: ((wsL_pass_r1 ++ (wsL_pass_r2 ++ (wsL_pass_r3 ++ (wsL_pass_r4 ++ wsL_pass_r5)))) ++ wsX50 ++ wsX10 ++ wsX40 ++ wsX20 ++ wsX30 ++ wsX00 ++ (vx_atS RX5 61 "java/lang/IllegalStateException" ["java/lang/RuntimeException", "java/lang/Exception"]).filter goodWord ++ (vx_atS RX5 213 "java/lang/IllegalArgumentException" ["java/lang/RuntimeException", "java/lang/Exception"]).filter goodWord)
def wsL_law0_r1 : List Cond := [Cond.classLink RL 8 RX5, Cond.instantiable RX5 5, Cond.initialized RX5, Cond.classLink RL 75 RX6, Cond.instantiable RX6 16, Cond.initialized RX6, Cond.arrayClass .long, Cond.methodLink RL 74 yX5_init, Cond.instanceMethod yX5_init, Cond.code yX5_init cX5_init 2 none, Cond.methodLink RX5 3 objectInit, Cond.instanceMethod objectInit, Cond.code objectInit ⟨#[0xb1]⟩ 1 none, Cond.classLink RX5 9 RX1, Cond.instantiable RX1 2, Cond.initialized RX1, Cond.fieldLink RX5 12 "Forwardroll" "calendar" "LForwardroll$Calendar;", Cond.classLink RX5 16 RX2, Cond.fieldLink RX5 18 "Forwardroll" "currencies" "[LForwardroll$Currency;", Cond.instantiable RX2 3, Cond.initialized RX2, Cond.classLink RX5 25 RX3, Cond.fieldLink RX5 27 "Forwardroll" "customers" "[LForwardroll$Customer;", Cond.instantiable RX3 3]
def wsL_law0_r2 : List Cond := [Cond.initialized RX3, Cond.classLink RX5 32 RX4, Cond.fieldLink RX5 34 "Forwardroll" "deals" "[LForwardroll$Deal;", Cond.instanceMethod yX1_init, Cond.code yX1_init cX1_init 1 none, Cond.methodLink RX1 3 objectInit, Cond.arrayClass .boolean, Cond.fieldLink RX1 9 "Forwardroll$Calendar" "holidays" "[Z", Cond.methodLink RX5 22 yX2_init, Cond.instanceMethod yX2_init, Cond.code yX2_init cX2_init 2 none, Cond.methodLink RX2 3 objectInit, Cond.fieldLink RX2 9 "Forwardroll$Currency" "spotRate" "I", Cond.fieldLink RX2 15 "Forwardroll$Currency" "number" "I", Cond.instanceMethod yX3_init, Cond.code yX3_init cX3_init 1 none, Cond.methodLink RX3 3 objectInit, Cond.constant RX3 9 (1000000), Cond.fieldLink RX3 10 "Forwardroll$Customer" "limit" "I", Cond.classLink RX3 16 RX0, Cond.fieldLink RX3 18 "Forwardroll$Customer" "netAmounts" "[LForwardroll$Amounts;", Cond.instantiable RX0 1, Cond.initialized RX0, Cond.fieldLink RX3 23 "Forwardroll$Customer" "balances" "LForwardroll$Amounts;"]
def wsL_law0_r3 : List Cond := [Cond.instanceMethod yX0_init, Cond.code yX0_init cX0_init 1 none, Cond.methodLink RX0 3 objectInit, Cond.fieldLink RX0 9 "Forwardroll$Amounts" "byMoney" "[J", Cond.methodLink RL 77 yX6_init, Cond.instanceMethod yX6_init, Cond.code yX6_init cX6_init 1 none, Cond.methodLink RX6 1 objectInit, Cond.arrayClass .int, Cond.fieldLink RX6 7 "ForwardrollModel" "spot" "[I", Cond.fieldLink RX6 13 "ForwardrollModel" "points" "[I", Cond.constantLong RX6 16 (1000000), Cond.fieldLink RX6 18 "ForwardrollModel" "limit" "[J", Cond.fieldLink RX6 22 "ForwardrollModel" "isHoliday" "[Z", Cond.fieldLink RX6 26 "ForwardrollModel" "customer" "[I", Cond.fieldLink RX6 29 "ForwardrollModel" "currency" "[I", Cond.fieldLink RX6 32 "ForwardrollModel" "buys" "[Z", Cond.fieldLink RX6 35 "ForwardrollModel" "left" "[I", Cond.fieldLink RX6 38 "ForwardrollModel" "first" "[I", Cond.fieldLink RX6 41 "ForwardrollModel" "last" "[I", Cond.fieldLink RX6 44 "ForwardrollModel" "rate" "[I", Cond.fieldLink RX6 47 "ForwardrollModel" "due" "[J", Cond.fieldLink RX6 50 "ForwardrollModel" "balance" "[J", Cond.methodLink RL 78 yL_setRate]
def wsL_law0_r4 : List Cond := [Cond.static yL_setRate, Cond.initialized RL, Cond.codeWith yL_setRate cL_setRate 5 (some .int) [(0, 10, 13, 13), (0, 10, 17, 15)], Cond.classLink RL 13 "java/lang/IndexOutOfBoundsException", Cond.classLink RL 15 "java/lang/IllegalArgumentException", Cond.methodLink RL 7 yX5_setRate, Cond.instanceMethod yX5_setRate, Cond.selects RX5 yX5_setRate yX5_setRate, Cond.code yX5_setRate cX5_setRate 5 (some .int), Cond.constant RX5 42 (100000), Cond.methodLink RX5 38 yX5_currencyNumbered, Cond.instanceMethod yX5_currencyNumbered, Cond.selects RX5 yX5_currencyNumbered yX5_currencyNumbered, Cond.code yX5_currencyNumbered cX5_currencyNumbered 3 (some (.object "Forwardroll$Currency")), Cond.classLink RX5 200 "java/lang/IndexOutOfBoundsException", Cond.initialized "java/lang/IndexOutOfBoundsException", Cond.methodLink RX5 84 yX5_isIndex, Cond.static yX5_isIndex, Cond.code yX5_isIndex cX5_isIndex 2 (some .boolean), Cond.methodLink RX5 43 yX5_requireRange, Cond.static yX5_requireRange, Cond.code yX5_requireRange cX5_requireRange 3 none, Cond.classLink RX5 209 "java/lang/IllegalArgumentException", Cond.initialized "java/lang/IllegalArgumentException"]
def wsL_law0_r5 : List Cond := [Cond.methodLink RL 83 yX6_setRate, Cond.instanceMethod yX6_setRate, Cond.selects RX6 yX6_setRate yX6_setRate, Cond.code yX6_setRate cX6_setRate 4 (some .int), Cond.constant RX6 77 (100000), Cond.fieldLink RX6 53 "ForwardrollModel" "thrown" "I", Cond.methodLink RX6 73 yX6_isCurrency, Cond.static yX6_isCurrency, Cond.code yX6_isCurrency cX6_isCurrency 1 (some .boolean), Cond.methodLink RX6 57 yX6_in, Cond.static yX6_in, Cond.code yX6_in cX6_in 3 (some .boolean), Cond.methodLink RL 84 yX6_thrown, Cond.instanceMethod yX6_thrown, Cond.selects RX6 yX6_thrown yX6_thrown, Cond.code yX6_thrown cX6_thrown 1 (some .int), Cond.methodLink RL 88 yL_setPoints, Cond.static yL_setPoints, Cond.codeWith yL_setPoints cL_setPoints 5 (some .int) [(0, 10, 13, 13), (0, 10, 17, 15)], Cond.methodLink RL 17 yX5_setPoints, Cond.instanceMethod yX5_setPoints, Cond.selects RX5 yX5_setPoints yX5_setPoints, Cond.code yX5_setPoints cX5_setPoints 5 (some .int), Cond.methodLink RL 90 yX6_setPoints]
def wsL_law0_r6 : List Cond := [Cond.instanceMethod yX6_setPoints, Cond.selects RX6 yX6_setPoints yX6_setPoints, Cond.code yX6_setPoints cX6_setPoints 4 (some .int), Cond.methodLink RL 91 yL_toggleHoliday, Cond.static yL_toggleHoliday, Cond.codeWith yL_toggleHoliday cL_toggleHoliday 4 (some .int) [(0, 16, 19, 15), (0, 16, 22, 24)], Cond.classLink RL 24 "java/lang/IllegalStateException", Cond.methodLink RL 20 yX5_toggleHoliday, Cond.instanceMethod yX5_toggleHoliday, Cond.selects RX5 yX5_toggleHoliday yX5_toggleHoliday, Cond.code yX5_toggleHoliday cX5_toggleHoliday 2 (some .boolean), Cond.classLink RX5 57 "java/lang/IllegalStateException", Cond.initialized "java/lang/IllegalStateException", Cond.methodLink RX5 64 yX1_flipHoliday, Cond.instanceMethod yX1_flipHoliday, Cond.selects RX1 yX1_flipHoliday yX1_flipHoliday, Cond.code yX1_flipHoliday cX1_flipHoliday 2 (some .boolean), Cond.methodLink RL 94 yX6_toggleHoliday, Cond.instanceMethod yX6_toggleHoliday, Cond.selects RX6 yX6_toggleHoliday yX6_toggleHoliday, Cond.code yX6_toggleHoliday cX6_toggleHoliday 2 (some .boolean), Cond.fieldLink RX6 64 "ForwardrollModel" "today" "I", Cond.methodLink RL 95 yL_setLimit, Cond.static yL_setLimit]
def wsL_law0_r7 : List Cond := [Cond.codeWith yL_setLimit cL_setLimit 5 (some .int) [(0, 10, 13, 13), (0, 10, 17, 15)], Cond.methodLink RL 26 yX5_setLimit, Cond.instanceMethod yX5_setLimit, Cond.selects RX5 yX5_setLimit yX5_setLimit, Cond.code yX5_setLimit cX5_setLimit 5 (some .int), Cond.constant RX5 72 (100000000), Cond.methodLink RX5 68 yX5_customerNumbered, Cond.instanceMethod yX5_customerNumbered, Cond.selects RX5 yX5_customerNumbered yX5_customerNumbered, Cond.code yX5_customerNumbered cX5_customerNumbered 3 (some (.object "Forwardroll$Customer")), Cond.methodLink RL 97 yX6_setLimit, Cond.instanceMethod yX6_setLimit, Cond.selects RX6 yX6_setLimit yX6_setLimit, Cond.code yX6_setLimit cX6_setLimit 5 (some .int), Cond.constant RX6 81 (100000000), Cond.methodLink RX6 78 yX6_isCustomer, Cond.static yX6_isCustomer, Cond.code yX6_isCustomer cX6_isCustomer 1 (some .boolean), Cond.methodLink RL 98 yL_forward, Cond.static yL_forward, Cond.codeWith yL_forward cL_forward 5 (some .int) [(0, 10, 13, 13), (0, 10, 17, 15)], Cond.methodLink RL 29 yX5_forward, Cond.instanceMethod yX5_forward, Cond.selects RX5 yX5_forward yX5_forward]
def wsL_law0_r8 : List Cond := [Cond.code yX5_forward cX5_forward 4 (some .int), Cond.methodLink RX5 76 yX2_forwardRate, Cond.instanceMethod yX2_forwardRate, Cond.selects RX2 yX2_forwardRate yX2_forwardRate, Cond.code yX2_forwardRate cX2_forwardRate 2 (some .int), Cond.methodLink RX2 18 yX2_laterRate, Cond.instanceMethod yX2_laterRate, Cond.selects RX2 yX2_laterRate yX2_laterRate, Cond.code yX2_laterRate cX2_laterRate 3 (some .int), Cond.fieldLink RX2 22 "Forwardroll$Currency" "points" "I", Cond.methodLink RX2 25 Lib.Math.max.name, Cond.static Lib.Math.max.name, Cond.initialized "java/lang/Math", Cond.code Lib.Math.max.name Lib.Math.max.code 2 (some .int), Cond.methodLink RL 100 yX6_forward, Cond.instanceMethod yX6_forward, Cond.selects RX6 yX6_forward yX6_forward, Cond.code yX6_forward cX6_forward 3 (some .int), Cond.methodLink RX6 82 yX6_forwardFor, Cond.instanceMethod yX6_forwardFor, Cond.selects RX6 yX6_forwardFor yX6_forwardFor, Cond.code yX6_forwardFor cX6_forwardFor 3 (some .int), Cond.methodLink RX6 67 yX6_atLeastOne, Cond.static yX6_atLeastOne]
def wsL_law0_r9 : List Cond := [Cond.code yX6_atLeastOne cX6_atLeastOne 1 (some .int), Cond.methodLink RL 101 yL_deal, Cond.static yL_deal, Cond.codeWith yL_deal cL_deal 9 (some .int) [(0, 18, 21, 13), (0, 18, 25, 15), (0, 18, 29, 24)], Cond.methodLink RL 32 yX5_deal, Cond.instanceMethod yX5_deal, Cond.selects RX5 yX5_deal yX5_deal, Cond.code yX5_deal cX5_deal 12 (some .int), Cond.constant RX5 80 (1000000), Cond.fieldLink RX5 81 "Forwardroll" "dealCount" "I", Cond.instantiable RX4 7, Cond.initialized RX4, Cond.methodLink RX5 90 yX4_init, Cond.instanceMethod yX4_init, Cond.code yX4_init cX4_init 8 none, Cond.methodLink RX4 3 objectInit, Cond.fieldLink RX4 9 "Forwardroll$Deal" "customer" "LForwardroll$Customer;", Cond.fieldLink RX4 15 "Forwardroll$Deal" "currency" "LForwardroll$Currency;", Cond.fieldLink RX4 19 "Forwardroll$Deal" "buys" "Z", Cond.fieldLink RX4 23 "Forwardroll$Deal" "amountLeft" "I", Cond.fieldLink RX4 27 "Forwardroll$Deal" "agreedRate" "I", Cond.fieldLink RX4 30 "Forwardroll$Deal" "firstDay" "I", Cond.fieldLink RX4 33 "Forwardroll$Deal" "lastDay" "I", Cond.methodLink RX5 93 yX5_exposureWith]
def wsL_law0_r10 : List Cond := [Cond.instanceMethod yX5_exposureWith, Cond.selects RX5 yX5_exposureWith yX5_exposureWith, Cond.code yX5_exposureWith cX5_exposureWith 4 (some .long), Cond.methodLink RX5 172 yX5_lossOfAll, Cond.instanceMethod yX5_lossOfAll, Cond.selects RX5 yX5_lossOfAll yX5_lossOfAll, Cond.code yX5_lossOfAll cX5_lossOfAll 9 (some .long), Cond.methodLink RX5 219 yX4_shiftedLoss, Cond.instanceMethod yX4_shiftedLoss, Cond.selects RX4 yX4_shiftedLoss yX4_shiftedLoss, Cond.code yX4_shiftedLoss cX4_shiftedLoss 4 (some .long), Cond.methodLink RX4 49 Lib.Math.max.name, Cond.methodLink RX4 42 yX4_marketRate, Cond.instanceMethod yX4_marketRate, Cond.selects RX4 yX4_marketRate yX4_marketRate, Cond.code yX4_marketRate cX4_marketRate 2 (some .int), Cond.methodLink RX4 36 yX2_forwardRate, Cond.methodLink RX4 45 yX4_gainAt, Cond.instanceMethod yX4_gainAt, Cond.selects RX4 yX4_gainAt yX4_gainAt, Cond.code yX4_gainAt cX4_gainAt 4 (some .long), Cond.static yX5_homeAmount, Cond.code yX5_homeAmount cX5_homeAmount 2 (some .long), Cond.constantLong RX5 227 (10000)]
def wsL_law0_r11 : List Cond := [Cond.methodLink RX5 176 yX5_worseLoss, Cond.static yX5_worseLoss, Cond.code yX5_worseLoss cX5_worseLoss 4 (some .long), Cond.methodLink RX5 222 Lib.MathLoose.max_long.x, Cond.static Lib.MathLoose.max_long.x, Cond.code Lib.MathLoose.max_long.x Lib.MathLoose.max_long.code 4 (some .long), Cond.methodLink RL 104 yX6_deal, Cond.instanceMethod yX6_deal, Cond.selects RX6 yX6_deal yX6_deal, Cond.code yX6_deal cX6_deal 10 (some .int), Cond.constant RX6 104 (1000000), Cond.fieldLink RX6 61 "ForwardrollModel" "deals" "I", Cond.methodLink RX6 105 yX6_exposureOf, Cond.instanceMethod yX6_exposureOf, Cond.selects RX6 yX6_exposureOf yX6_exposureOf, Cond.code yX6_exposureOf cX6_exposureOf 8 (some .long), Cond.methodLink RX6 94 yX6_valueAt, Cond.instanceMethod yX6_valueAt, Cond.selects RX6 yX6_valueAt yX6_valueAt, Cond.code yX6_valueAt cX6_valueAt 7 (some .long), Cond.methodLink RX6 90 yX6_gainOf, Cond.instanceMethod yX6_gainOf, Cond.selects RX6 yX6_gainOf yX6_gainOf, Cond.code yX6_gainOf cX6_gainOf 6 (some .long)]
def wsL_law0_r12 : List Cond := [Cond.methodLink RX6 86 yX6_home, Cond.static yX6_home, Cond.code yX6_home cX6_home 2 (some .long), Cond.constantLong RX6 71 (10000), Cond.methodLink RL 105 yL_draw, Cond.static yL_draw, Cond.codeWith yL_draw cL_draw 5 (some .int) [(0, 10, 13, 13), (0, 10, 17, 15)], Cond.methodLink RL 36 yX5_draw, Cond.instanceMethod yX5_draw, Cond.selects RX5 yX5_draw yX5_draw, Cond.code yX5_draw cX5_draw 8 (some .int), Cond.methodLink RX5 99 yX5_dealNumbered, Cond.instanceMethod yX5_dealNumbered, Cond.selects RX5 yX5_dealNumbered yX5_dealNumbered, Cond.code yX5_dealNumbered cX5_dealNumbered 3 (some (.object "Forwardroll$Deal")), Cond.methodLink RX5 106 yX4_drawingRate, Cond.instanceMethod yX4_drawingRate, Cond.selects RX4 yX4_drawingRate yX4_drawingRate, Cond.code yX4_drawingRate cX4_drawingRate 2 (some .int), Cond.methodLink RX4 55 yX2_laterRate, Cond.methodLink RX5 109 yX5_homeAmount, Cond.methodLink RX5 113 yX1_nextBusinessDay, Cond.instanceMethod yX1_nextBusinessDay, Cond.selects RX1 yX1_nextBusinessDay yX1_nextBusinessDay]
def wsL_law0_r13 : List Cond := [Cond.code yX1_nextBusinessDay cX1_nextBusinessDay 2 (some .int), Cond.fieldLink RX1 19 "Forwardroll$Calendar" "today" "I", Cond.methodLink RX1 23 yX1_isBusinessDay, Cond.instanceMethod yX1_isBusinessDay, Cond.selects RX1 yX1_isBusinessDay yX1_isBusinessDay, Cond.code yX1_isBusinessDay cX1_isBusinessDay 3 (some .boolean), Cond.methodLink RX5 132 yX3_book, Cond.instanceMethod yX3_book, Cond.selects RX3 yX3_book yX3_book, Cond.code yX3_book cX3_book 6 none, Cond.methodLink RX3 31 yX0_add, Cond.instanceMethod yX0_add, Cond.selects RX0 yX0_add yX0_add, Cond.code yX0_add cX0_add 4 none, Cond.methodLink RL 107 yX6_draw, Cond.instanceMethod yX6_draw, Cond.selects RX6 yX6_draw yX6_draw, Cond.code yX6_draw cX6_draw 7 (some .int), Cond.methodLink RX6 109 yX6_isDeal, Cond.instanceMethod yX6_isDeal, Cond.selects RX6 yX6_isDeal yX6_isDeal, Cond.code yX6_isDeal cX6_isDeal 2 (some .boolean), Cond.methodLink RX6 112 yX6_owes, Cond.instanceMethod yX6_owes]
def wsL_law0_r14 : List Cond := [Cond.selects RX6 yX6_owes yX6_owes, Cond.code yX6_owes cX6_owes 5 none, Cond.methodLink RX6 100 yX6_settles, Cond.instanceMethod yX6_settles, Cond.selects RX6 yX6_settles yX6_settles, Cond.code yX6_settles cX6_settles 2 (some .int), Cond.methodLink RX6 97 yX6_isBusiness, Cond.instanceMethod yX6_isBusiness, Cond.selects RX6 yX6_isBusiness yX6_isBusiness, Cond.code yX6_isBusiness cX6_isBusiness 2 (some .boolean), Cond.methodLink RL 108 yL_roll, Cond.static yL_roll, Cond.codeWith yL_roll cL_roll 6 (some .int) [(0, 12, 15, 13), (0, 12, 19, 15), (0, 12, 23, 24)], Cond.methodLink RL 39 yX5_roll, Cond.instanceMethod yX5_roll, Cond.selects RX5 yX5_roll yX5_roll, Cond.code yX5_roll cX5_roll 5 (some .int), Cond.methodLink RX5 136 yX5_requireLeft, Cond.static yX5_requireLeft, Cond.code yX5_requireLeft cX5_requireLeft 1 none, Cond.methodLink RX5 145 yX5_bookGain, Cond.instanceMethod yX5_bookGain, Cond.selects RX5 yX5_bookGain yX5_bookGain, Cond.code yX5_bookGain cX5_bookGain 4 (some .long)]
def wsL_law0_r15 : List Cond := [Cond.methodLink RX5 168 yX4_marketGain, Cond.instanceMethod yX4_marketGain, Cond.selects RX4 yX4_marketGain yX4_marketGain, Cond.code yX4_marketGain cX4_marketGain 2 (some .long), Cond.methodLink RX5 149 yX4_moveWindow, Cond.instanceMethod yX4_moveWindow, Cond.selects RX4 yX4_moveWindow yX4_moveWindow, Cond.code yX4_moveWindow cX4_moveWindow 2 none, Cond.methodLink RX5 152 yX4_marketRate, Cond.methodLink RX5 158 yX2_laterRate, Cond.methodLink RL 111 yX6_roll, Cond.instanceMethod yX6_roll, Cond.selects RX6 yX6_roll yX6_roll, Cond.code yX6_roll cX6_roll 5 (some .int), Cond.methodLink RX6 116 yX6_gainNow, Cond.instanceMethod yX6_gainNow, Cond.selects RX6 yX6_gainNow yX6_gainNow, Cond.code yX6_gainNow cX6_gainNow 2 (some .long), Cond.methodLink RL 112 yL_closeOut, Cond.static yL_closeOut, Cond.codeWith yL_closeOut cL_closeOut 4 (some .int) [(0, 8, 11, 13), (0, 8, 14, 24)], Cond.methodLink RL 43 yX5_closeOut, Cond.instanceMethod yX5_closeOut, Cond.selects RX5 yX5_closeOut yX5_closeOut]
def wsL_law0_r16 : List Cond := [Cond.code yX5_closeOut cX5_closeOut 3 (some .long), Cond.methodLink RX5 162 yX5_endDeal, Cond.instanceMethod yX5_endDeal, Cond.selects RX5 yX5_endDeal yX5_endDeal, Cond.code yX5_endDeal cX5_endDeal 4 (some .long), Cond.methodLink RL 114 yX6_closeOut, Cond.instanceMethod yX6_closeOut, Cond.selects RX6 yX6_closeOut yX6_closeOut, Cond.code yX6_closeOut cX6_closeOut 2 (some .long), Cond.methodLink RX6 119 yX6_closes, Cond.instanceMethod yX6_closes, Cond.selects RX6 yX6_closes yX6_closes, Cond.code yX6_closes cX6_closes 4 (some .long), Cond.methodLink RL 115 yL_left, Cond.static yL_left, Cond.codeWith yL_left cL_left 4 (some .int) [(0, 9, 12, 13)], Cond.methodLink RL 47 yX5_left, Cond.instanceMethod yX5_left, Cond.selects RX5 yX5_left yX5_left, Cond.code yX5_left cX5_left 2 (some .int), Cond.methodLink RL 117 yX6_left, Cond.instanceMethod yX6_left, Cond.selects RX6 yX6_left yX6_left, Cond.code yX6_left cX6_left 2 (some .int)]
def wsL_law0_r17 : List Cond := [Cond.methodLink RX6 122 yX6_asks, Cond.instanceMethod yX6_asks, Cond.selects RX6 yX6_asks yX6_asks, Cond.code yX6_asks cX6_asks 2 (some .boolean), Cond.methodLink RL 118 yL_rate, Cond.static yL_rate, Cond.codeWith yL_rate cL_rate 4 (some .int) [(0, 9, 12, 13)], Cond.methodLink RL 51 yX5_rate, Cond.instanceMethod yX5_rate, Cond.selects RX5 yX5_rate yX5_rate, Cond.code yX5_rate cX5_rate 2 (some .int), Cond.methodLink RL 120 yX6_rate, Cond.instanceMethod yX6_rate, Cond.selects RX6 yX6_rate yX6_rate, Cond.code yX6_rate cX6_rate 2 (some .int), Cond.methodLink RL 121 yL_window, Cond.static yL_window, Cond.codeWith yL_window cL_window 4 (some .int) [(0, 9, 12, 13)], Cond.methodLink RL 54 yX5_window, Cond.instanceMethod yX5_window, Cond.selects RX5 yX5_window yX5_window, Cond.code yX5_window cX5_window 3 (some .int), Cond.methodLink RL 123 yX6_window, Cond.instanceMethod yX6_window]
def wsL_law0_r18 : List Cond := [Cond.selects RX6 yX6_window yX6_window, Cond.code yX6_window cX6_window 2 (some .int), Cond.methodLink RL 124 yL_gain, Cond.static yL_gain, Cond.codeWith yL_gain cL_gain 4 (some .int) [(0, 8, 11, 13)], Cond.methodLink RL 57 yX5_gain, Cond.instanceMethod yX5_gain, Cond.selects RX5 yX5_gain yX5_gain, Cond.code yX5_gain cX5_gain 2 (some .long), Cond.methodLink RL 126 yX6_gain, Cond.instanceMethod yX6_gain, Cond.selects RX6 yX6_gain yX6_gain, Cond.code yX6_gain cX6_gain 2 (some .long), Cond.methodLink RL 127 yL_exposure, Cond.static yL_exposure, Cond.codeWith yL_exposure cL_exposure 4 (some .int) [(0, 8, 11, 13)], Cond.methodLink RL 60 yX5_exposure, Cond.instanceMethod yX5_exposure, Cond.selects RX5 yX5_exposure yX5_exposure, Cond.code yX5_exposure cX5_exposure 3 (some .long), Cond.methodLink RL 129 yX6_exposure, Cond.instanceMethod yX6_exposure, Cond.selects RX6 yX6_exposure yX6_exposure, Cond.code yX6_exposure cX6_exposure 2 (some .long)]
def wsL_law0_r19 : List Cond := [Cond.methodLink RL 130 yX5_settlementDay, Cond.instanceMethod yX5_settlementDay, Cond.selects RX5 yX5_settlementDay yX5_settlementDay, Cond.code yX5_settlementDay cX5_settlementDay 1 (some .int), Cond.methodLink RL 133 yX6_settlementDay, Cond.instanceMethod yX6_settlementDay, Cond.selects RX6 yX6_settlementDay yX6_settlementDay, Cond.code yX6_settlementDay cX6_settlementDay 1 (some .int), Cond.methodLink RL 134 yL_due, Cond.static yL_due, Cond.codeWith yL_due cL_due 6 (some .int) [(0, 11, 14, 13), (0, 11, 18, 15)], Cond.methodLink RL 63 yX5_due, Cond.instanceMethod yX5_due, Cond.selects RX5 yX5_due yX5_due, Cond.code yX5_due cX5_due 5 (some .long), Cond.methodLink RX5 180 yX3_netAmount, Cond.instanceMethod yX3_netAmount, Cond.selects RX3 yX3_netAmount yX3_netAmount, Cond.code yX3_netAmount cX3_netAmount 4 (some .long), Cond.methodLink RX3 35 yX3_netAmountsOf, Cond.instanceMethod yX3_netAmountsOf, Cond.selects RX3 yX3_netAmountsOf yX3_netAmountsOf, Cond.code yX3_netAmountsOf cX3_netAmountsOf 2 (some (.object "Forwardroll$Amounts")), Cond.methodLink RX3 39 yX0_amountOf]
def wsL_law0_r20 : List Cond := [Cond.instanceMethod yX0_amountOf, Cond.selects RX0 yX0_amountOf yX0_amountOf, Cond.code yX0_amountOf cX0_amountOf 2 (some .long), Cond.methodLink RL 137 yX6_due, Cond.instanceMethod yX6_due, Cond.selects RX6 yX6_due yX6_due, Cond.code yX6_due cX6_due 4 (some .long), Cond.methodLink RL 138 yL_balance, Cond.static yL_balance, Cond.codeWith yL_balance cL_balance 5 (some .int) [(0, 9, 12, 13), (0, 9, 16, 15)], Cond.methodLink RL 67 yX5_balance, Cond.instanceMethod yX5_balance, Cond.selects RX5 yX5_balance yX5_balance, Cond.code yX5_balance cX5_balance 4 (some .long), Cond.methodLink RX5 187 yX0_amountOf, Cond.methodLink RL 140 yX6_balance, Cond.instanceMethod yX6_balance, Cond.selects RX6 yX6_balance yX6_balance, Cond.code yX6_balance cX6_balance 3 (some .long), Cond.methodLink RL 141 yL_pass, Cond.static yL_pass, Cond.codeWith yL_pass cL_pass 4 (some .int) [(0, 9, 12, 15), (0, 9, 15, 24)], Cond.methodLink RL 71 yX5_pass, Cond.instanceMethod yX5_pass]
def wsL_law0_r21 : List Cond := [Cond.selects RX5 yX5_pass yX5_pass, Cond.code yX5_pass cX5_pass 4 (some .int), Cond.methodLink RX5 194 yX5_endDealsOfToday, Cond.instanceMethod yX5_endDealsOfToday, Cond.selects RX5 yX5_endDealsOfToday yX5_endDealsOfToday, Cond.code yX5_endDealsOfToday cX5_endDealsOfToday 6 (some .int), Cond.methodLink RX5 197 yX5_settleAll, Cond.instanceMethod yX5_settleAll, Cond.selects RX5 yX5_settleAll yX5_settleAll, Cond.code yX5_settleAll cX5_settleAll 6 none, Cond.methodLink RX5 216 yX3_settle, Cond.instanceMethod yX3_settle, Cond.selects RX3 yX3_settle yX3_settle, Cond.code yX3_settle cX3_settle 3 none, Cond.methodLink RX3 43 yX0_addAll, Cond.instanceMethod yX0_addAll, Cond.selects RX0 yX0_addAll yX0_addAll, Cond.code yX0_addAll cX0_addAll 3 none, Cond.methodLink RX0 19 yX0_amountOf, Cond.methodLink RX0 23 yX0_add, Cond.methodLink RL 143 yX6_pass, Cond.instanceMethod yX6_pass, Cond.selects RX6 yX6_pass yX6_pass, Cond.code yX6_pass cX6_pass 4 (some .int)]
def wsL_law0_r22 : List Cond := [Cond.methodLink RX6 125 yX6_passes, Cond.instanceMethod yX6_passes, Cond.selects RX6 yX6_passes yX6_passes, Cond.code yX6_passes cX6_passes 3 (some .int), Cond.methodLink RL 144 yX5_today, Cond.instanceMethod yX5_today, Cond.selects RX5 yX5_today yX5_today, Cond.code yX5_today cX5_today 1 (some .int), Cond.methodLink RL 147 yX6_today, Cond.instanceMethod yX6_today, Cond.selects RX6 yX6_today yX6_today, Cond.code yX6_today cX6_today 1 (some .int)]
def wsL_law0 : List Cond := (wsL_law0_r1 ++ (wsL_law0_r2 ++ (wsL_law0_r3 ++ (wsL_law0_r4 ++ (wsL_law0_r5 ++ (wsL_law0_r6 ++ (wsL_law0_r7 ++ (wsL_law0_r8 ++ (wsL_law0_r9 ++ (wsL_law0_r10 ++ (wsL_law0_r11 ++ (wsL_law0_r12 ++ (wsL_law0_r13 ++ (wsL_law0_r14 ++ (wsL_law0_r15 ++ (wsL_law0_r16 ++ (wsL_law0_r17 ++ (wsL_law0_r18 ++ (wsL_law0_r19 ++ (wsL_law0_r20 ++ (wsL_law0_r21 ++ wsL_law0_r22))))))))))))))))))))) ++ wsX50 ++ wsX60 ++ wsX10 ++ wsX20 ++ wsX30 ++ wsX00 ++ wsX40 ++ ([] : List Cond)
def wsL_law : List Cond := wsL_law0 ++ (vx_atS RX5 204 "java/lang/IndexOutOfBoundsException" ["java/lang/RuntimeException", "java/lang/Exception"]).filter goodWord ++ (vx_atS RX5 213 "java/lang/IllegalArgumentException" ["java/lang/RuntimeException", "java/lang/Exception"]).filter goodWord ++ (vx_atS RX5 61 "java/lang/IllegalStateException" ["java/lang/RuntimeException", "java/lang/Exception"]).filter goodWord
abbrev vwCl : List vw_C := [(RX0, TX0, 1), (RX1, TX1, 2), (RX2, TX2, 3), (RX3, TX3, 3), (RX4, TX4, 7), (RX5, TX5, 5), (RX6, TX6, 16)]
end
section
theorem dX0_init_0 : decode cX0_init 0 = .ok (.aload_n 0, 1) := by decide +kernel
theorem dX0_init_1 : decode cX0_init 1 = .ok (.invokespecial 3, 3) := by decide +kernel
theorem dX0_init_4 : decode cX0_init 4 = .ok (.aload_n 0, 1) := by decide +kernel
theorem dX0_init_5 : decode cX0_init 5 = .ok (.iconst 5, 1) := by decide +kernel
theorem dX0_init_6 : decode cX0_init 6 = .ok (.newarray .long, 2) := by decide +kernel
theorem dX0_init_8 : decode cX0_init 8 = .ok (.putfield 9, 3) := by decide +kernel
theorem dX0_init_11 : decode cX0_init 11 = .ok (.return_, 1) := by decide +kernel
set_option maxRecDepth 20000 in
theorem ggX0_add_X5_isIndex : GoodIn wsX0_add wsX5_isIndex := goodIn_r _ [4] (by decide +kernel) (by decide +kernel)
set_option maxRecDepth 20000 in
theorem gX0_add_X5_isIndex_n15 : GoodIn wsX0_add (wsX5_isIndex) := ggX0_add_X5_isIndex
theorem dX0_add_0 : decode cX0_add 0 = .ok (.iload_n 1, 1) := by decide +kernel
theorem dX0_add_1 : decode cX0_add 1 = .ok (.aload_n 0, 1) := by decide +kernel
theorem dX0_add_2 : decode cX0_add 2 = .ok (.getfield 9, 3) := by decide +kernel
theorem dX0_add_5 : decode cX0_add 5 = .ok (.arraylength, 1) := by decide +kernel
theorem dX0_add_6 : decode cX0_add 6 = .ok (.invokestatic 15, 3) := by decide +kernel
theorem dX0_add_9 : decode cX0_add 9 = .ok (.ifCond .eq 13, 3) := by decide +kernel
theorem dX0_add_12 : decode cX0_add 12 = .ok (.aload_n 0, 1) := by decide +kernel
theorem dX0_add_13 : decode cX0_add 13 = .ok (.getfield 9, 3) := by decide +kernel
theorem dX0_add_16 : decode cX0_add 16 = .ok (.iload_n 1, 1) := by decide +kernel
theorem dX0_add_17 : decode cX0_add 17 = .ok (.dup2, 1) := by decide +kernel
theorem dX0_add_18 : decode cX0_add 18 = .ok (.laload, 1) := by decide +kernel
theorem dX0_add_19 : decode cX0_add 19 = .ok (.lload_n 2, 1) := by decide +kernel
theorem dX0_add_20 : decode cX0_add 20 = .ok (.ladd, 1) := by decide +kernel
theorem dX0_add_21 : decode cX0_add 21 = .ok (.lastore, 1) := by decide +kernel
theorem dX0_add_22 : decode cX0_add 22 = .ok (.return_, 1) := by decide +kernel
set_option maxRecDepth 20000 in
theorem ggX0_addAll_X0_amountOf : GoodIn wsX0_addAll wsX0_amountOf := goodIn_r _ [5, 6, 7, 8, 9, 14] (by decide +kernel) (by decide +kernel)
set_option maxRecDepth 20000 in
theorem gX0_addAll_X0_amountOf : GoodIn wsX0_addAll (wsV RX0 19 RX0 yX0_amountOf wsX0_amountOf) := goodIn_app (goodIn_of _ (by decide +kernel)) ggX0_addAll_X0_amountOf
set_option maxRecDepth 20000 in
theorem ggX0_addAll_X0_add : GoodIn wsX0_addAll wsX0_add := goodIn_r _ [13, 6, 7, 8, 9, 14] (by decide +kernel) (by decide +kernel)
set_option maxRecDepth 20000 in
theorem gX0_addAll_X0_add : GoodIn wsX0_addAll (wsV RX0 23 RX0 yX0_add wsX0_add) := goodIn_app (goodIn_of _ (by decide +kernel)) ggX0_addAll_X0_add
theorem dX0_addAll_0 : decode cX0_addAll 0 = .ok (.iconst 0, 1) := by decide +kernel
theorem dX0_addAll_1 : decode cX0_addAll 1 = .ok (.istore_n 2, 1) := by decide +kernel
theorem dX0_addAll_2 : decode cX0_addAll 2 = .ok (.iload_n 2, 1) := by decide +kernel
theorem dX0_addAll_3 : decode cX0_addAll 3 = .ok (.iconst 5, 1) := by decide +kernel
theorem dX0_addAll_4 : decode cX0_addAll 4 = .ok (.if_icmp .ge 19, 3) := by decide +kernel
theorem dX0_addAll_7 : decode cX0_addAll 7 = .ok (.aload_n 0, 1) := by decide +kernel
theorem dX0_addAll_8 : decode cX0_addAll 8 = .ok (.iload_n 2, 1) := by decide +kernel
theorem dX0_addAll_9 : decode cX0_addAll 9 = .ok (.aload_n 1, 1) := by decide +kernel
theorem dX0_addAll_10 : decode cX0_addAll 10 = .ok (.iload_n 2, 1) := by decide +kernel
theorem dX0_addAll_11 : decode cX0_addAll 11 = .ok (.invokevirtual 19, 3) := by decide +kernel
theorem dX0_addAll_14 : decode cX0_addAll 14 = .ok (.invokevirtual 23, 3) := by decide +kernel
theorem dX0_addAll_17 : decode cX0_addAll 17 = .ok (.iinc 2 1, 3) := by decide +kernel
theorem dX0_addAll_20 : decode cX0_addAll 20 = .ok (.goto (-18), 3) := by decide +kernel
theorem dX0_addAll_23 : decode cX0_addAll 23 = .ok (.return_, 1) := by decide +kernel
set_option maxRecDepth 20000 in
theorem ggX0_amountOf_X5_isIndex : GoodIn wsX0_amountOf wsX5_isIndex := goodIn_r _ [4] (by decide +kernel) (by decide +kernel)
set_option maxRecDepth 20000 in
theorem gX0_amountOf_X5_isIndex_n15 : GoodIn wsX0_amountOf (wsX5_isIndex) := ggX0_amountOf_X5_isIndex
theorem dX0_amountOf_0 : decode cX0_amountOf 0 = .ok (.iload_n 1, 1) := by decide +kernel
theorem dX0_amountOf_1 : decode cX0_amountOf 1 = .ok (.aload_n 0, 1) := by decide +kernel
theorem dX0_amountOf_2 : decode cX0_amountOf 2 = .ok (.getfield 9, 3) := by decide +kernel
theorem dX0_amountOf_5 : decode cX0_amountOf 5 = .ok (.arraylength, 1) := by decide +kernel
theorem dX0_amountOf_6 : decode cX0_amountOf 6 = .ok (.invokestatic 15, 3) := by decide +kernel
theorem dX0_amountOf_9 : decode cX0_amountOf 9 = .ok (.ifCond .eq 12, 3) := by decide +kernel
theorem dX0_amountOf_12 : decode cX0_amountOf 12 = .ok (.aload_n 0, 1) := by decide +kernel
theorem dX0_amountOf_13 : decode cX0_amountOf 13 = .ok (.getfield 9, 3) := by decide +kernel
theorem dX0_amountOf_16 : decode cX0_amountOf 16 = .ok (.iload_n 1, 1) := by decide +kernel
theorem dX0_amountOf_17 : decode cX0_amountOf 17 = .ok (.laload, 1) := by decide +kernel
theorem dX0_amountOf_18 : decode cX0_amountOf 18 = .ok (.goto 4, 3) := by decide +kernel
theorem dX0_amountOf_21 : decode cX0_amountOf 21 = .ok (.lconst 0, 1) := by decide +kernel
theorem dX0_amountOf_22 : decode cX0_amountOf 22 = .ok (.lreturn, 1) := by decide +kernel
theorem dX1_init_0 : decode cX1_init 0 = .ok (.aload_n 0, 1) := by decide +kernel
theorem dX1_init_1 : decode cX1_init 1 = .ok (.invokespecial 3, 3) := by decide +kernel
theorem dX1_init_4 : decode cX1_init 4 = .ok (.aload_n 0, 1) := by decide +kernel
theorem dX1_init_5 : decode cX1_init 5 = .ok (.sipush 1001, 3) := by decide +kernel
theorem dX1_init_8 : decode cX1_init 8 = .ok (.newarray .boolean, 2) := by decide +kernel
theorem dX1_init_10 : decode cX1_init 10 = .ok (.putfield 9, 3) := by decide +kernel
theorem dX1_init_13 : decode cX1_init 13 = .ok (.return_, 1) := by decide +kernel
set_option maxRecDepth 20000 in
theorem ggX1_flipHoliday_X5_isIndex : GoodIn wsX1_flipHoliday wsX5_isIndex := goodIn_r _ [4] (by decide +kernel) (by decide +kernel)
set_option maxRecDepth 20000 in
theorem gX1_flipHoliday_X5_isIndex_n15 : GoodIn wsX1_flipHoliday (wsX5_isIndex) := ggX1_flipHoliday_X5_isIndex
theorem dX1_flipHoliday_0 : decode cX1_flipHoliday 0 = .ok (.iload_n 1, 1) := by decide +kernel
theorem dX1_flipHoliday_1 : decode cX1_flipHoliday 1 = .ok (.aload_n 0, 1) := by decide +kernel
theorem dX1_flipHoliday_2 : decode cX1_flipHoliday 2 = .ok (.getfield 9, 3) := by decide +kernel
theorem dX1_flipHoliday_5 : decode cX1_flipHoliday 5 = .ok (.arraylength, 1) := by decide +kernel
theorem dX1_flipHoliday_6 : decode cX1_flipHoliday 6 = .ok (.invokestatic 15, 3) := by decide +kernel
theorem dX1_flipHoliday_9 : decode cX1_flipHoliday 9 = .ok (.ifCond .ne 5, 3) := by decide +kernel
theorem dX1_flipHoliday_12 : decode cX1_flipHoliday 12 = .ok (.iconst 0, 1) := by decide +kernel
theorem dX1_flipHoliday_13 : decode cX1_flipHoliday 13 = .ok (.ireturn, 1) := by decide +kernel
theorem dX1_flipHoliday_14 : decode cX1_flipHoliday 14 = .ok (.aload_n 0, 1) := by decide +kernel
theorem dX1_flipHoliday_15 : decode cX1_flipHoliday 15 = .ok (.getfield 9, 3) := by decide +kernel
theorem dX1_flipHoliday_18 : decode cX1_flipHoliday 18 = .ok (.iload_n 1, 1) := by decide +kernel
theorem dX1_flipHoliday_19 : decode cX1_flipHoliday 19 = .ok (.aload_n 0, 1) := by decide +kernel
theorem dX1_flipHoliday_20 : decode cX1_flipHoliday 20 = .ok (.getfield 9, 3) := by decide +kernel
theorem dX1_flipHoliday_23 : decode cX1_flipHoliday 23 = .ok (.iload_n 1, 1) := by decide +kernel
theorem dX1_flipHoliday_24 : decode cX1_flipHoliday 24 = .ok (.baload, 1) := by decide +kernel
theorem dX1_flipHoliday_25 : decode cX1_flipHoliday 25 = .ok (.ifCond .ne 7, 3) := by decide +kernel
theorem dX1_flipHoliday_28 : decode cX1_flipHoliday 28 = .ok (.iconst 1, 1) := by decide +kernel
theorem dX1_flipHoliday_29 : decode cX1_flipHoliday 29 = .ok (.goto 4, 3) := by decide +kernel
theorem dX1_flipHoliday_32 : decode cX1_flipHoliday 32 = .ok (.iconst 0, 1) := by decide +kernel
theorem dX1_flipHoliday_33 : decode cX1_flipHoliday 33 = .ok (.bastore, 1) := by decide +kernel
theorem dX1_flipHoliday_34 : decode cX1_flipHoliday 34 = .ok (.aload_n 0, 1) := by decide +kernel
theorem dX1_flipHoliday_35 : decode cX1_flipHoliday 35 = .ok (.getfield 9, 3) := by decide +kernel
theorem dX1_flipHoliday_38 : decode cX1_flipHoliday 38 = .ok (.iload_n 1, 1) := by decide +kernel
theorem dX1_flipHoliday_39 : decode cX1_flipHoliday 39 = .ok (.baload, 1) := by decide +kernel
theorem dX1_flipHoliday_40 : decode cX1_flipHoliday 40 = .ok (.ireturn, 1) := by decide +kernel
set_option maxRecDepth 20000 in
theorem ggX1_isBusinessDay_X5_isIndex : GoodIn wsX1_isBusinessDay wsX5_isIndex := goodIn_r _ [4] (by decide +kernel) (by decide +kernel)
set_option maxRecDepth 20000 in
theorem gX1_isBusinessDay_X5_isIndex_n15 : GoodIn wsX1_isBusinessDay (wsX5_isIndex) := ggX1_isBusinessDay_X5_isIndex
theorem dX1_isBusinessDay_0 : decode cX1_isBusinessDay 0 = .ok (.iload_n 1, 1) := by decide +kernel
theorem dX1_isBusinessDay_1 : decode cX1_isBusinessDay 1 = .ok (.aload_n 0, 1) := by decide +kernel
theorem dX1_isBusinessDay_2 : decode cX1_isBusinessDay 2 = .ok (.getfield 9, 3) := by decide +kernel
theorem dX1_isBusinessDay_5 : decode cX1_isBusinessDay 5 = .ok (.arraylength, 1) := by decide +kernel
theorem dX1_isBusinessDay_6 : decode cX1_isBusinessDay 6 = .ok (.invokestatic 15, 3) := by decide +kernel
theorem dX1_isBusinessDay_9 : decode cX1_isBusinessDay 9 = .ok (.ifCond .eq 16, 3) := by decide +kernel
theorem dX1_isBusinessDay_12 : decode cX1_isBusinessDay 12 = .ok (.aload_n 0, 1) := by decide +kernel
theorem dX1_isBusinessDay_13 : decode cX1_isBusinessDay 13 = .ok (.getfield 9, 3) := by decide +kernel
theorem dX1_isBusinessDay_16 : decode cX1_isBusinessDay 16 = .ok (.iload_n 1, 1) := by decide +kernel
theorem dX1_isBusinessDay_17 : decode cX1_isBusinessDay 17 = .ok (.baload, 1) := by decide +kernel
theorem dX1_isBusinessDay_18 : decode cX1_isBusinessDay 18 = .ok (.ifCond .eq 7, 3) := by decide +kernel
theorem dX1_isBusinessDay_21 : decode cX1_isBusinessDay 21 = .ok (.iconst 1, 1) := by decide +kernel
theorem dX1_isBusinessDay_22 : decode cX1_isBusinessDay 22 = .ok (.goto 4, 3) := by decide +kernel
theorem dX1_isBusinessDay_25 : decode cX1_isBusinessDay 25 = .ok (.iconst 0, 1) := by decide +kernel
theorem dX1_isBusinessDay_26 : decode cX1_isBusinessDay 26 = .ok (.istore_n 2, 1) := by decide +kernel
theorem dX1_isBusinessDay_27 : decode cX1_isBusinessDay 27 = .ok (.iload_n 1, 1) := by decide +kernel
theorem dX1_isBusinessDay_28 : decode cX1_isBusinessDay 28 = .ok (.bipush 7, 2) := by decide +kernel
theorem dX1_isBusinessDay_30 : decode cX1_isBusinessDay 30 = .ok (.irem, 1) := by decide +kernel
theorem dX1_isBusinessDay_31 : decode cX1_isBusinessDay 31 = .ok (.iconst 5, 1) := by decide +kernel
theorem dX1_isBusinessDay_32 : decode cX1_isBusinessDay 32 = .ok (.if_icmp .ge 11, 3) := by decide +kernel
theorem dX1_isBusinessDay_35 : decode cX1_isBusinessDay 35 = .ok (.iload_n 2, 1) := by decide +kernel
theorem dX1_isBusinessDay_36 : decode cX1_isBusinessDay 36 = .ok (.ifCond .ne 7, 3) := by decide +kernel
theorem dX1_isBusinessDay_39 : decode cX1_isBusinessDay 39 = .ok (.iconst 1, 1) := by decide +kernel
theorem dX1_isBusinessDay_40 : decode cX1_isBusinessDay 40 = .ok (.goto 4, 3) := by decide +kernel
theorem dX1_isBusinessDay_43 : decode cX1_isBusinessDay 43 = .ok (.iconst 0, 1) := by decide +kernel
theorem dX1_isBusinessDay_44 : decode cX1_isBusinessDay 44 = .ok (.ireturn, 1) := by decide +kernel
set_option maxRecDepth 20000 in
theorem ggX1_nextBusinessDay_X1_isBusinessDay : GoodIn wsX1_nextBusinessDay wsX1_isBusinessDay := goodIn_r _ [6, 7, 8, 9, 10, 11, 12] (by decide +kernel) (by decide +kernel)
set_option maxRecDepth 20000 in
theorem gX1_nextBusinessDay_X1_isBusinessDay : GoodIn wsX1_nextBusinessDay (wsV RX1 23 RX1 yX1_isBusinessDay wsX1_isBusinessDay) := goodIn_app (goodIn_of _ (by decide +kernel)) ggX1_nextBusinessDay_X1_isBusinessDay
theorem dX1_nextBusinessDay_0 : decode cX1_nextBusinessDay 0 = .ok (.aload_n 0, 1) := by decide +kernel
theorem dX1_nextBusinessDay_1 : decode cX1_nextBusinessDay 1 = .ok (.getfield 19, 3) := by decide +kernel
theorem dX1_nextBusinessDay_4 : decode cX1_nextBusinessDay 4 = .ok (.iconst 1, 1) := by decide +kernel
theorem dX1_nextBusinessDay_5 : decode cX1_nextBusinessDay 5 = .ok (.iadd, 1) := by decide +kernel
theorem dX1_nextBusinessDay_6 : decode cX1_nextBusinessDay 6 = .ok (.istore_n 1, 1) := by decide +kernel
theorem dX1_nextBusinessDay_7 : decode cX1_nextBusinessDay 7 = .ok (.iload_n 1, 1) := by decide +kernel
theorem dX1_nextBusinessDay_8 : decode cX1_nextBusinessDay 8 = .ok (.sipush 1001, 3) := by decide +kernel
theorem dX1_nextBusinessDay_11 : decode cX1_nextBusinessDay 11 = .ok (.if_icmp .ge 17, 3) := by decide +kernel
theorem dX1_nextBusinessDay_14 : decode cX1_nextBusinessDay 14 = .ok (.aload_n 0, 1) := by decide +kernel
theorem dX1_nextBusinessDay_15 : decode cX1_nextBusinessDay 15 = .ok (.iload_n 1, 1) := by decide +kernel
theorem dX1_nextBusinessDay_16 : decode cX1_nextBusinessDay 16 = .ok (.invokevirtual 23, 3) := by decide +kernel
theorem dX1_nextBusinessDay_19 : decode cX1_nextBusinessDay 19 = .ok (.ifCond .ne 9, 3) := by decide +kernel
theorem dX1_nextBusinessDay_22 : decode cX1_nextBusinessDay 22 = .ok (.iinc 1 1, 3) := by decide +kernel
theorem dX1_nextBusinessDay_25 : decode cX1_nextBusinessDay 25 = .ok (.goto (-18), 3) := by decide +kernel
theorem dX1_nextBusinessDay_28 : decode cX1_nextBusinessDay 28 = .ok (.iload_n 1, 1) := by decide +kernel
theorem dX1_nextBusinessDay_29 : decode cX1_nextBusinessDay 29 = .ok (.ireturn, 1) := by decide +kernel
theorem dX2_init_0 : decode cX2_init 0 = .ok (.aload_n 0, 1) := by decide +kernel
theorem dX2_init_1 : decode cX2_init 1 = .ok (.invokespecial 3, 3) := by decide +kernel
theorem dX2_init_4 : decode cX2_init 4 = .ok (.aload_n 0, 1) := by decide +kernel
theorem dX2_init_5 : decode cX2_init 5 = .ok (.sipush 10000, 3) := by decide +kernel
theorem dX2_init_8 : decode cX2_init 8 = .ok (.putfield 9, 3) := by decide +kernel
theorem dX2_init_11 : decode cX2_init 11 = .ok (.aload_n 0, 1) := by decide +kernel
theorem dX2_init_12 : decode cX2_init 12 = .ok (.iload_n 1, 1) := by decide +kernel
theorem dX2_init_13 : decode cX2_init 13 = .ok (.putfield 15, 3) := by decide +kernel
theorem dX2_init_16 : decode cX2_init 16 = .ok (.return_, 1) := by decide +kernel
set_option maxRecDepth 20000 in
theorem ggX2_forwardRate_X2_laterRate : GoodIn wsX2_forwardRate wsX2_laterRate := goodIn_r _ [6, 7, 8, 9, 10, 11, 12, 13, 14] (by decide +kernel) (by decide +kernel)
set_option maxRecDepth 20000 in
theorem gX2_forwardRate_X2_laterRate : GoodIn wsX2_forwardRate (wsV RX2 18 RX2 yX2_laterRate wsX2_laterRate) := goodIn_app (goodIn_of _ (by decide +kernel)) ggX2_forwardRate_X2_laterRate
theorem dX2_forwardRate_0 : decode cX2_forwardRate 0 = .ok (.aload_n 0, 1) := by decide +kernel
theorem dX2_forwardRate_1 : decode cX2_forwardRate 1 = .ok (.aload_n 0, 1) := by decide +kernel
theorem dX2_forwardRate_2 : decode cX2_forwardRate 2 = .ok (.getfield 9, 3) := by decide +kernel
theorem dX2_forwardRate_5 : decode cX2_forwardRate 5 = .ok (.iload_n 1, 1) := by decide +kernel
theorem dX2_forwardRate_6 : decode cX2_forwardRate 6 = .ok (.invokevirtual 18, 3) := by decide +kernel
theorem dX2_forwardRate_9 : decode cX2_forwardRate 9 = .ok (.ireturn, 1) := by decide +kernel
theorem dX2_laterRate_0 : decode cX2_laterRate 0 = .ok (.iconst 1, 1) := by decide +kernel
theorem dX2_laterRate_1 : decode cX2_laterRate 1 = .ok (.iload_n 1, 1) := by decide +kernel
theorem dX2_laterRate_2 : decode cX2_laterRate 2 = .ok (.aload_n 0, 1) := by decide +kernel
theorem dX2_laterRate_3 : decode cX2_laterRate 3 = .ok (.getfield 22, 3) := by decide +kernel
theorem dX2_laterRate_6 : decode cX2_laterRate 6 = .ok (.iload_n 2, 1) := by decide +kernel
theorem dX2_laterRate_7 : decode cX2_laterRate 7 = .ok (.imul, 1) := by decide +kernel
theorem dX2_laterRate_8 : decode cX2_laterRate 8 = .ok (.iadd, 1) := by decide +kernel
theorem dX2_laterRate_9 : decode cX2_laterRate 9 = .ok (.invokestatic 25, 3) := by decide +kernel
theorem dX2_laterRate_12 : decode cX2_laterRate 12 = .ok (.ireturn, 1) := by decide +kernel
set_option maxRecDepth 20000 in
theorem ggX3_init_X0_init : GoodIn wsX3_init wsX0_init := goodIn_r _ [12, 13, 2, 3, 14, 15, 19] (by decide +kernel) (by decide +kernel)
set_option maxRecDepth 20000 in
theorem gX3_init_X0_init_n22 : GoodIn wsX3_init (wsX0_init) := ggX3_init_X0_init
theorem dX3_init_0 : decode cX3_init 0 = .ok (.aload_n 0, 1) := by decide +kernel
theorem dX3_init_1 : decode cX3_init 1 = .ok (.invokespecial 3, 3) := by decide +kernel
theorem dX3_init_4 : decode cX3_init 4 = .ok (.aload_n 0, 1) := by decide +kernel
theorem dX3_init_5 : decode cX3_init 5 = .ok (.ldc 9, 2) := by decide +kernel
theorem dX3_init_7 : decode cX3_init 7 = .ok (.putfield 10, 3) := by decide +kernel
theorem dX3_init_10 : decode cX3_init 10 = .ok (.aload_n 0, 1) := by decide +kernel
theorem dX3_init_11 : decode cX3_init 11 = .ok (.sipush 1002, 3) := by decide +kernel
theorem dX3_init_14 : decode cX3_init 14 = .ok (.anewarray 16, 3) := by decide +kernel
theorem dX3_init_17 : decode cX3_init 17 = .ok (.putfield 18, 3) := by decide +kernel
theorem dX3_init_20 : decode cX3_init 20 = .ok (.aload_n 0, 1) := by decide +kernel
theorem dX3_init_21 : decode cX3_init 21 = .ok (.new 16, 3) := by decide +kernel
theorem dX3_init_24 : decode cX3_init 24 = .ok (.dup, 1) := by decide +kernel
theorem dX3_init_25 : decode cX3_init 25 = .ok (.invokespecial 22, 3) := by decide +kernel
theorem dX3_init_28 : decode cX3_init 28 = .ok (.putfield 23, 3) := by decide +kernel
theorem dX3_init_31 : decode cX3_init 31 = .ok (.return_, 1) := by decide +kernel
set_option maxRecDepth 20000 in
theorem ggX3_book_X5_isIndex : GoodIn wsX3_book wsX5_isIndex := goodIn_r _ [7] (by decide +kernel) (by decide +kernel)
set_option maxRecDepth 20000 in
theorem gX3_book_X5_isIndex_n27 : GoodIn wsX3_book (wsX5_isIndex) := ggX3_book_X5_isIndex
set_option maxRecDepth 20000 in
theorem ggX3_book_X0_init : GoodIn wsX3_book wsX0_init := goodIn_r _ [9, 10, 11, 12, 13, 14, 22] (by decide +kernel) (by decide +kernel)
set_option maxRecDepth 20000 in
theorem gX3_book_X0_init_n22 : GoodIn wsX3_book (wsX0_init) := ggX3_book_X0_init
set_option maxRecDepth 20000 in
theorem ggX3_book_X0_add : GoodIn wsX3_book wsX0_add := goodIn_r _ [18, 14, 5, 6, 7, 22] (by decide +kernel) (by decide +kernel)
set_option maxRecDepth 20000 in
theorem gX3_book_X0_add : GoodIn wsX3_book (wsV RX3 31 RX0 yX0_add wsX0_add) := goodIn_app (goodIn_of _ (by decide +kernel)) ggX3_book_X0_add
theorem dX3_book_0 : decode cX3_book 0 = .ok (.iload_n 2, 1) := by decide +kernel
theorem dX3_book_1 : decode cX3_book 1 = .ok (.aload_n 0, 1) := by decide +kernel
theorem dX3_book_2 : decode cX3_book 2 = .ok (.getfield 18, 3) := by decide +kernel
theorem dX3_book_5 : decode cX3_book 5 = .ok (.arraylength, 1) := by decide +kernel
theorem dX3_book_6 : decode cX3_book 6 = .ok (.invokestatic 27, 3) := by decide +kernel
theorem dX3_book_9 : decode cX3_book 9 = .ok (.ifCond .ne 4, 3) := by decide +kernel
theorem dX3_book_12 : decode cX3_book 12 = .ok (.return_, 1) := by decide +kernel
theorem dX3_book_13 : decode cX3_book 13 = .ok (.aload_n 0, 1) := by decide +kernel
theorem dX3_book_14 : decode cX3_book 14 = .ok (.getfield 18, 3) := by decide +kernel
theorem dX3_book_17 : decode cX3_book 17 = .ok (.iload_n 2, 1) := by decide +kernel
theorem dX3_book_18 : decode cX3_book 18 = .ok (.aaload, 1) := by decide +kernel
theorem dX3_book_19 : decode cX3_book 19 = .ok (.astore 5, 2) := by decide +kernel
theorem dX3_book_21 : decode cX3_book 21 = .ok (.aload 5, 2) := by decide +kernel
theorem dX3_book_23 : decode cX3_book 23 = .ok (.ifnonnull 20, 3) := by decide +kernel
theorem dX3_book_26 : decode cX3_book 26 = .ok (.new 16, 3) := by decide +kernel
theorem dX3_book_29 : decode cX3_book 29 = .ok (.dup, 1) := by decide +kernel
theorem dX3_book_30 : decode cX3_book 30 = .ok (.invokespecial 22, 3) := by decide +kernel
theorem dX3_book_33 : decode cX3_book 33 = .ok (.astore 5, 2) := by decide +kernel
theorem dX3_book_35 : decode cX3_book 35 = .ok (.aload_n 0, 1) := by decide +kernel
theorem dX3_book_36 : decode cX3_book 36 = .ok (.getfield 18, 3) := by decide +kernel
theorem dX3_book_39 : decode cX3_book 39 = .ok (.iload_n 2, 1) := by decide +kernel
theorem dX3_book_40 : decode cX3_book 40 = .ok (.aload 5, 2) := by decide +kernel
theorem dX3_book_42 : decode cX3_book 42 = .ok (.aastore, 1) := by decide +kernel
theorem dX3_book_43 : decode cX3_book 43 = .ok (.aload 5, 2) := by decide +kernel
theorem dX3_book_45 : decode cX3_book 45 = .ok (.iload_n 1, 1) := by decide +kernel
theorem dX3_book_46 : decode cX3_book 46 = .ok (.lload_n 3, 1) := by decide +kernel
theorem dX3_book_47 : decode cX3_book 47 = .ok (.invokevirtual 31, 3) := by decide +kernel
theorem dX3_book_50 : decode cX3_book 50 = .ok (.return_, 1) := by decide +kernel
set_option maxRecDepth 20000 in
theorem ggX3_netAmountsOf_X5_isIndex : GoodIn wsX3_netAmountsOf wsX5_isIndex := goodIn_r _ [4] (by decide +kernel) (by decide +kernel)
set_option maxRecDepth 20000 in
theorem gX3_netAmountsOf_X5_isIndex_n27 : GoodIn wsX3_netAmountsOf (wsX5_isIndex) := ggX3_netAmountsOf_X5_isIndex
theorem dX3_netAmountsOf_0 : decode cX3_netAmountsOf 0 = .ok (.iload_n 1, 1) := by decide +kernel
theorem dX3_netAmountsOf_1 : decode cX3_netAmountsOf 1 = .ok (.aload_n 0, 1) := by decide +kernel
theorem dX3_netAmountsOf_2 : decode cX3_netAmountsOf 2 = .ok (.getfield 18, 3) := by decide +kernel
theorem dX3_netAmountsOf_5 : decode cX3_netAmountsOf 5 = .ok (.arraylength, 1) := by decide +kernel
theorem dX3_netAmountsOf_6 : decode cX3_netAmountsOf 6 = .ok (.invokestatic 27, 3) := by decide +kernel
theorem dX3_netAmountsOf_9 : decode cX3_netAmountsOf 9 = .ok (.ifCond .eq 12, 3) := by decide +kernel
theorem dX3_netAmountsOf_12 : decode cX3_netAmountsOf 12 = .ok (.aload_n 0, 1) := by decide +kernel
theorem dX3_netAmountsOf_13 : decode cX3_netAmountsOf 13 = .ok (.getfield 18, 3) := by decide +kernel
theorem dX3_netAmountsOf_16 : decode cX3_netAmountsOf 16 = .ok (.iload_n 1, 1) := by decide +kernel
theorem dX3_netAmountsOf_17 : decode cX3_netAmountsOf 17 = .ok (.aaload, 1) := by decide +kernel
theorem dX3_netAmountsOf_18 : decode cX3_netAmountsOf 18 = .ok (.goto 4, 3) := by decide +kernel
theorem dX3_netAmountsOf_21 : decode cX3_netAmountsOf 21 = .ok (.aconst_null, 1) := by decide +kernel
theorem dX3_netAmountsOf_22 : decode cX3_netAmountsOf 22 = .ok (.areturn, 1) := by decide +kernel
set_option maxRecDepth 20000 in
theorem ggX3_netAmount_X3_netAmountsOf : GoodIn wsX3_netAmount wsX3_netAmountsOf := goodIn_r _ [5, 6, 7, 8, 9, 16, 17, 18] (by decide +kernel) (by decide +kernel)
set_option maxRecDepth 20000 in
theorem gX3_netAmount_X3_netAmountsOf : GoodIn wsX3_netAmount (wsV RX3 35 RX3 yX3_netAmountsOf wsX3_netAmountsOf) := goodIn_app (goodIn_of _ (by decide +kernel)) ggX3_netAmount_X3_netAmountsOf
set_option maxRecDepth 20000 in
theorem ggX3_netAmount_X0_amountOf : GoodIn wsX3_netAmount wsX0_amountOf := goodIn_r _ [14, 15, 7, 8, 9, 19] (by decide +kernel) (by decide +kernel)
set_option maxRecDepth 20000 in
theorem gX3_netAmount_X0_amountOf : GoodIn wsX3_netAmount (wsV RX3 39 RX0 yX0_amountOf wsX0_amountOf) := goodIn_app (goodIn_of _ (by decide +kernel)) ggX3_netAmount_X0_amountOf
theorem dX3_netAmount_0 : decode cX3_netAmount 0 = .ok (.aload_n 0, 1) := by decide +kernel
theorem dX3_netAmount_1 : decode cX3_netAmount 1 = .ok (.iload_n 2, 1) := by decide +kernel
theorem dX3_netAmount_2 : decode cX3_netAmount 2 = .ok (.invokevirtual 35, 3) := by decide +kernel
theorem dX3_netAmount_5 : decode cX3_netAmount 5 = .ok (.astore_n 3, 1) := by decide +kernel
theorem dX3_netAmount_6 : decode cX3_netAmount 6 = .ok (.aload_n 3, 1) := by decide +kernel
theorem dX3_netAmount_7 : decode cX3_netAmount 7 = .ok (.ifnonnull 7, 3) := by decide +kernel
theorem dX3_netAmount_10 : decode cX3_netAmount 10 = .ok (.lconst 0, 1) := by decide +kernel
theorem dX3_netAmount_11 : decode cX3_netAmount 11 = .ok (.goto 8, 3) := by decide +kernel
theorem dX3_netAmount_14 : decode cX3_netAmount 14 = .ok (.aload_n 3, 1) := by decide +kernel
theorem dX3_netAmount_15 : decode cX3_netAmount 15 = .ok (.iload_n 1, 1) := by decide +kernel
theorem dX3_netAmount_16 : decode cX3_netAmount 16 = .ok (.invokevirtual 39, 3) := by decide +kernel
theorem dX3_netAmount_19 : decode cX3_netAmount 19 = .ok (.lreturn, 1) := by decide +kernel
set_option maxRecDepth 20000 in
theorem ggX3_settle_X3_netAmountsOf : GoodIn wsX3_settle wsX3_netAmountsOf := goodIn_r _ [6, 7, 8, 9, 10, 25, 26, 27] (by decide +kernel) (by decide +kernel)
set_option maxRecDepth 20000 in
theorem gX3_settle_X3_netAmountsOf : GoodIn wsX3_settle (wsV RX3 35 RX3 yX3_netAmountsOf wsX3_netAmountsOf) := goodIn_app (goodIn_of _ (by decide +kernel)) ggX3_settle_X3_netAmountsOf
set_option maxRecDepth 20000 in
theorem ggX3_settle_X0_addAll : GoodIn wsX3_settle wsX0_addAll := goodIn_r _ [15, 16, 17, 18, 14, 19, 20, 8, 9, 10, 21, 22, 23, 24, 28] (by decide +kernel) (by decide +kernel)
set_option maxRecDepth 20000 in
theorem gX3_settle_X0_addAll : GoodIn wsX3_settle (wsV RX3 43 RX0 yX0_addAll wsX0_addAll) := goodIn_app (goodIn_of _ (by decide +kernel)) ggX3_settle_X0_addAll
theorem dX3_settle_0 : decode cX3_settle 0 = .ok (.aload_n 0, 1) := by decide +kernel
theorem dX3_settle_1 : decode cX3_settle 1 = .ok (.iload_n 1, 1) := by decide +kernel
theorem dX3_settle_2 : decode cX3_settle 2 = .ok (.invokevirtual 35, 3) := by decide +kernel
theorem dX3_settle_5 : decode cX3_settle 5 = .ok (.astore_n 2, 1) := by decide +kernel
theorem dX3_settle_6 : decode cX3_settle 6 = .ok (.aload_n 2, 1) := by decide +kernel
theorem dX3_settle_7 : decode cX3_settle 7 = .ok (.ifnull 11, 3) := by decide +kernel
theorem dX3_settle_10 : decode cX3_settle 10 = .ok (.aload_n 0, 1) := by decide +kernel
theorem dX3_settle_11 : decode cX3_settle 11 = .ok (.getfield 23, 3) := by decide +kernel
theorem dX3_settle_14 : decode cX3_settle 14 = .ok (.aload_n 2, 1) := by decide +kernel
theorem dX3_settle_15 : decode cX3_settle 15 = .ok (.invokevirtual 43, 3) := by decide +kernel
theorem dX3_settle_18 : decode cX3_settle 18 = .ok (.return_, 1) := by decide +kernel
theorem dX4_init_0 : decode cX4_init 0 = .ok (.aload_n 0, 1) := by decide +kernel
theorem dX4_init_1 : decode cX4_init 1 = .ok (.invokespecial 3, 3) := by decide +kernel
theorem dX4_init_4 : decode cX4_init 4 = .ok (.aload_n 0, 1) := by decide +kernel
theorem dX4_init_5 : decode cX4_init 5 = .ok (.aload_n 1, 1) := by decide +kernel
theorem dX4_init_6 : decode cX4_init 6 = .ok (.putfield 9, 3) := by decide +kernel
theorem dX4_init_9 : decode cX4_init 9 = .ok (.aload_n 0, 1) := by decide +kernel
theorem dX4_init_10 : decode cX4_init 10 = .ok (.aload_n 2, 1) := by decide +kernel
theorem dX4_init_11 : decode cX4_init 11 = .ok (.putfield 15, 3) := by decide +kernel
theorem dX4_init_14 : decode cX4_init 14 = .ok (.aload_n 0, 1) := by decide +kernel
theorem dX4_init_15 : decode cX4_init 15 = .ok (.iload_n 3, 1) := by decide +kernel
theorem dX4_init_16 : decode cX4_init 16 = .ok (.putfield 19, 3) := by decide +kernel
theorem dX4_init_19 : decode cX4_init 19 = .ok (.aload_n 0, 1) := by decide +kernel
theorem dX4_init_20 : decode cX4_init 20 = .ok (.iload 4, 2) := by decide +kernel
theorem dX4_init_22 : decode cX4_init 22 = .ok (.putfield 23, 3) := by decide +kernel
theorem dX4_init_25 : decode cX4_init 25 = .ok (.aload_n 0, 1) := by decide +kernel
theorem dX4_init_26 : decode cX4_init 26 = .ok (.iload 5, 2) := by decide +kernel
theorem dX4_init_28 : decode cX4_init 28 = .ok (.putfield 27, 3) := by decide +kernel
theorem dX4_init_31 : decode cX4_init 31 = .ok (.aload_n 0, 1) := by decide +kernel
theorem dX4_init_32 : decode cX4_init 32 = .ok (.iload 6, 2) := by decide +kernel
theorem dX4_init_34 : decode cX4_init 34 = .ok (.putfield 30, 3) := by decide +kernel
theorem dX4_init_37 : decode cX4_init 37 = .ok (.aload_n 0, 1) := by decide +kernel
theorem dX4_init_38 : decode cX4_init 38 = .ok (.iload 7, 2) := by decide +kernel
theorem dX4_init_40 : decode cX4_init 40 = .ok (.putfield 33, 3) := by decide +kernel
theorem dX4_init_43 : decode cX4_init 43 = .ok (.return_, 1) := by decide +kernel
set_option maxRecDepth 20000 in
theorem ggX4_marketRate_X2_forwardRate : GoodIn wsX4_marketRate wsX2_forwardRate := goodIn_r _ [7, 8, 9, 10, 11, 6, 12, 13, 14, 15, 16, 17, 25, 26, 27] (by decide +kernel) (by decide +kernel)
set_option maxRecDepth 20000 in
theorem gX4_marketRate_X2_forwardRate : GoodIn wsX4_marketRate (wsV RX4 36 RX2 yX2_forwardRate wsX2_forwardRate) := goodIn_app (goodIn_of _ (by decide +kernel)) ggX4_marketRate_X2_forwardRate
theorem dX4_marketRate_0 : decode cX4_marketRate 0 = .ok (.aload_n 0, 1) := by decide +kernel
theorem dX4_marketRate_1 : decode cX4_marketRate 1 = .ok (.getfield 15, 3) := by decide +kernel
theorem dX4_marketRate_4 : decode cX4_marketRate 4 = .ok (.aload_n 0, 1) := by decide +kernel
theorem dX4_marketRate_5 : decode cX4_marketRate 5 = .ok (.getfield 33, 3) := by decide +kernel
theorem dX4_marketRate_8 : decode cX4_marketRate 8 = .ok (.iload_n 1, 1) := by decide +kernel
theorem dX4_marketRate_9 : decode cX4_marketRate 9 = .ok (.isub, 1) := by decide +kernel
theorem dX4_marketRate_10 : decode cX4_marketRate 10 = .ok (.invokevirtual 36, 3) := by decide +kernel
theorem dX4_marketRate_13 : decode cX4_marketRate 13 = .ok (.ireturn, 1) := by decide +kernel
set_option maxRecDepth 20000 in
theorem ggX4_marketGain_X4_marketRate : GoodIn wsX4_marketGain wsX4_marketRate := goodIn_r _ [5, 6, 7, 8, 9, 10, 11, 12, 13, 14, 15, 16, 17, 18, 19, 20, 21, 22, 34, 35, 36, 37, 38, 39, 40, 41, 42, 43] (by decide +kernel) (by decide +kernel)
set_option maxRecDepth 20000 in
theorem gX4_marketGain_X4_marketRate : GoodIn wsX4_marketGain (wsV RX4 42 RX4 yX4_marketRate wsX4_marketRate) := goodIn_app (goodIn_of _ (by decide +kernel)) ggX4_marketGain_X4_marketRate
set_option maxRecDepth 20000 in
theorem ggX4_marketGain_X4_gainAt : GoodIn wsX4_marketGain wsX4_gainAt := goodIn_r _ [26, 27, 28, 29, 30, 31, 32, 33, 34, 35, 36, 37, 38, 39, 40] (by decide +kernel) (by decide +kernel)
set_option maxRecDepth 20000 in
theorem gX4_marketGain_X4_gainAt : GoodIn wsX4_marketGain (wsV RX4 45 RX4 yX4_gainAt wsX4_gainAt) := goodIn_app (goodIn_of _ (by decide +kernel)) ggX4_marketGain_X4_gainAt
theorem dX4_marketGain_0 : decode cX4_marketGain 0 = .ok (.aload_n 0, 1) := by decide +kernel
theorem dX4_marketGain_1 : decode cX4_marketGain 1 = .ok (.aload_n 0, 1) := by decide +kernel
theorem dX4_marketGain_2 : decode cX4_marketGain 2 = .ok (.iload_n 1, 1) := by decide +kernel
theorem dX4_marketGain_3 : decode cX4_marketGain 3 = .ok (.invokevirtual 42, 3) := by decide +kernel
theorem dX4_marketGain_6 : decode cX4_marketGain 6 = .ok (.invokevirtual 45, 3) := by decide +kernel
theorem dX4_marketGain_9 : decode cX4_marketGain 9 = .ok (.lreturn, 1) := by decide +kernel
set_option maxRecDepth 20000 in
theorem ggX4_shiftedLoss_X4_marketRate : GoodIn wsX4_shiftedLoss wsX4_marketRate := goodIn_r _ [9, 10, 11, 12, 13, 14, 15, 16, 17, 18, 19, 20, 21, 22, 23, 2, 3, 4, 35, 36, 37, 38, 39, 40, 41, 42, 43, 44] (by decide +kernel) (by decide +kernel)
set_option maxRecDepth 20000 in
theorem gX4_shiftedLoss_X4_marketRate : GoodIn wsX4_shiftedLoss (wsV RX4 42 RX4 yX4_marketRate wsX4_marketRate) := goodIn_app (goodIn_of _ (by decide +kernel)) ggX4_shiftedLoss_X4_marketRate
set_option maxRecDepth 20000 in
theorem ggX4_shiftedLoss_X4_gainAt : GoodIn wsX4_shiftedLoss wsX4_gainAt := goodIn_r _ [27, 28, 29, 30, 31, 32, 33, 34, 35, 36, 37, 38, 39, 40, 41] (by decide +kernel) (by decide +kernel)
set_option maxRecDepth 20000 in
theorem gX4_shiftedLoss_X4_gainAt : GoodIn wsX4_shiftedLoss (wsV RX4 45 RX4 yX4_gainAt wsX4_gainAt) := goodIn_app (goodIn_of _ (by decide +kernel)) ggX4_shiftedLoss_X4_gainAt
theorem dX4_shiftedLoss_0 : decode cX4_shiftedLoss 0 = .ok (.aload_n 0, 1) := by decide +kernel
theorem dX4_shiftedLoss_1 : decode cX4_shiftedLoss 1 = .ok (.iload_n 1, 1) := by decide +kernel
theorem dX4_shiftedLoss_2 : decode cX4_shiftedLoss 2 = .ok (.invokevirtual 42, 3) := by decide +kernel
theorem dX4_shiftedLoss_5 : decode cX4_shiftedLoss 5 = .ok (.bipush 100, 2) := by decide +kernel
theorem dX4_shiftedLoss_7 : decode cX4_shiftedLoss 7 = .ok (.iload_n 2, 1) := by decide +kernel
theorem dX4_shiftedLoss_8 : decode cX4_shiftedLoss 8 = .ok (.iadd, 1) := by decide +kernel
theorem dX4_shiftedLoss_9 : decode cX4_shiftedLoss 9 = .ok (.imul, 1) := by decide +kernel
theorem dX4_shiftedLoss_10 : decode cX4_shiftedLoss 10 = .ok (.bipush 100, 2) := by decide +kernel
theorem dX4_shiftedLoss_12 : decode cX4_shiftedLoss 12 = .ok (.idiv, 1) := by decide +kernel
theorem dX4_shiftedLoss_13 : decode cX4_shiftedLoss 13 = .ok (.istore_n 3, 1) := by decide +kernel
theorem dX4_shiftedLoss_14 : decode cX4_shiftedLoss 14 = .ok (.aload_n 0, 1) := by decide +kernel
theorem dX4_shiftedLoss_15 : decode cX4_shiftedLoss 15 = .ok (.iconst 1, 1) := by decide +kernel
theorem dX4_shiftedLoss_16 : decode cX4_shiftedLoss 16 = .ok (.iload_n 3, 1) := by decide +kernel
theorem dX4_shiftedLoss_17 : decode cX4_shiftedLoss 17 = .ok (.invokestatic 49, 3) := by decide +kernel
theorem dX4_shiftedLoss_20 : decode cX4_shiftedLoss 20 = .ok (.invokevirtual 45, 3) := by decide +kernel
theorem dX4_shiftedLoss_23 : decode cX4_shiftedLoss 23 = .ok (.lneg, 1) := by decide +kernel
theorem dX4_shiftedLoss_24 : decode cX4_shiftedLoss 24 = .ok (.lreturn, 1) := by decide +kernel
set_option maxRecDepth 20000 in
theorem ggX4_drawingRate_X2_laterRate : GoodIn wsX4_drawingRate wsX2_laterRate := goodIn_r _ [8, 9, 10, 11, 12, 13, 21, 22, 23] (by decide +kernel) (by decide +kernel)
set_option maxRecDepth 20000 in
theorem gX4_drawingRate_X2_laterRate : GoodIn wsX4_drawingRate (wsV RX4 55 RX2 yX2_laterRate wsX2_laterRate) := goodIn_app (goodIn_of _ (by decide +kernel)) ggX4_drawingRate_X2_laterRate
theorem dX4_drawingRate_0 : decode cX4_drawingRate 0 = .ok (.iload_n 1, 1) := by decide +kernel
theorem dX4_drawingRate_1 : decode cX4_drawingRate 1 = .ok (.aload_n 0, 1) := by decide +kernel
theorem dX4_drawingRate_2 : decode cX4_drawingRate 2 = .ok (.getfield 30, 3) := by decide +kernel
theorem dX4_drawingRate_5 : decode cX4_drawingRate 5 = .ok (.if_icmp .ge 23, 3) := by decide +kernel
theorem dX4_drawingRate_8 : decode cX4_drawingRate 8 = .ok (.aload_n 0, 1) := by decide +kernel
theorem dX4_drawingRate_9 : decode cX4_drawingRate 9 = .ok (.getfield 15, 3) := by decide +kernel
theorem dX4_drawingRate_12 : decode cX4_drawingRate 12 = .ok (.aload_n 0, 1) := by decide +kernel
theorem dX4_drawingRate_13 : decode cX4_drawingRate 13 = .ok (.getfield 27, 3) := by decide +kernel
theorem dX4_drawingRate_16 : decode cX4_drawingRate 16 = .ok (.iload_n 1, 1) := by decide +kernel
theorem dX4_drawingRate_17 : decode cX4_drawingRate 17 = .ok (.aload_n 0, 1) := by decide +kernel
theorem dX4_drawingRate_18 : decode cX4_drawingRate 18 = .ok (.getfield 30, 3) := by decide +kernel
theorem dX4_drawingRate_21 : decode cX4_drawingRate 21 = .ok (.isub, 1) := by decide +kernel
theorem dX4_drawingRate_22 : decode cX4_drawingRate 22 = .ok (.invokevirtual 55, 3) := by decide +kernel
theorem dX4_drawingRate_25 : decode cX4_drawingRate 25 = .ok (.goto 7, 3) := by decide +kernel
theorem dX4_drawingRate_28 : decode cX4_drawingRate 28 = .ok (.aload_n 0, 1) := by decide +kernel
theorem dX4_drawingRate_29 : decode cX4_drawingRate 29 = .ok (.getfield 27, 3) := by decide +kernel
theorem dX4_drawingRate_32 : decode cX4_drawingRate 32 = .ok (.ireturn, 1) := by decide +kernel
theorem dX4_moveWindow_0 : decode cX4_moveWindow 0 = .ok (.aload_n 0, 1) := by decide +kernel
theorem dX4_moveWindow_1 : decode cX4_moveWindow 1 = .ok (.aload_n 0, 1) := by decide +kernel
theorem dX4_moveWindow_2 : decode cX4_moveWindow 2 = .ok (.getfield 33, 3) := by decide +kernel
theorem dX4_moveWindow_5 : decode cX4_moveWindow 5 = .ok (.putfield 30, 3) := by decide +kernel
theorem dX4_moveWindow_8 : decode cX4_moveWindow 8 = .ok (.aload_n 0, 1) := by decide +kernel
theorem dX4_moveWindow_9 : decode cX4_moveWindow 9 = .ok (.dup, 1) := by decide +kernel
theorem dX4_moveWindow_10 : decode cX4_moveWindow 10 = .ok (.getfield 33, 3) := by decide +kernel
theorem dX4_moveWindow_13 : decode cX4_moveWindow 13 = .ok (.iload_n 1, 1) := by decide +kernel
theorem dX4_moveWindow_14 : decode cX4_moveWindow 14 = .ok (.iadd, 1) := by decide +kernel
theorem dX4_moveWindow_15 : decode cX4_moveWindow 15 = .ok (.putfield 33, 3) := by decide +kernel
theorem dX4_moveWindow_18 : decode cX4_moveWindow 18 = .ok (.return_, 1) := by decide +kernel
set_option maxRecDepth 20000 in
theorem ggX4_gainAt_X5_homeAmount : GoodIn wsX4_gainAt wsX5_homeAmount := goodIn_r _ [6, 7] (by decide +kernel) (by decide +kernel)
set_option maxRecDepth 20000 in
theorem gX4_gainAt_X5_homeAmount_n58 : GoodIn wsX4_gainAt (wsX5_homeAmount) := ggX4_gainAt_X5_homeAmount
theorem dX4_gainAt_0 : decode cX4_gainAt 0 = .ok (.aload_n 0, 1) := by decide +kernel
theorem dX4_gainAt_1 : decode cX4_gainAt 1 = .ok (.getfield 23, 3) := by decide +kernel
theorem dX4_gainAt_4 : decode cX4_gainAt 4 = .ok (.iload_n 1, 1) := by decide +kernel
theorem dX4_gainAt_5 : decode cX4_gainAt 5 = .ok (.invokestatic 58, 3) := by decide +kernel
theorem dX4_gainAt_8 : decode cX4_gainAt 8 = .ok (.aload_n 0, 1) := by decide +kernel
theorem dX4_gainAt_9 : decode cX4_gainAt 9 = .ok (.getfield 23, 3) := by decide +kernel
theorem dX4_gainAt_12 : decode cX4_gainAt 12 = .ok (.aload_n 0, 1) := by decide +kernel
theorem dX4_gainAt_13 : decode cX4_gainAt 13 = .ok (.getfield 27, 3) := by decide +kernel
theorem dX4_gainAt_16 : decode cX4_gainAt 16 = .ok (.invokestatic 58, 3) := by decide +kernel
theorem dX4_gainAt_19 : decode cX4_gainAt 19 = .ok (.lsub, 1) := by decide +kernel
theorem dX4_gainAt_20 : decode cX4_gainAt 20 = .ok (.lstore_n 2, 1) := by decide +kernel
theorem dX4_gainAt_21 : decode cX4_gainAt 21 = .ok (.aload_n 0, 1) := by decide +kernel
theorem dX4_gainAt_22 : decode cX4_gainAt 22 = .ok (.getfield 19, 3) := by decide +kernel
theorem dX4_gainAt_25 : decode cX4_gainAt 25 = .ok (.ifCond .eq 7, 3) := by decide +kernel
theorem dX4_gainAt_28 : decode cX4_gainAt 28 = .ok (.lload_n 2, 1) := by decide +kernel
theorem dX4_gainAt_29 : decode cX4_gainAt 29 = .ok (.goto 5, 3) := by decide +kernel
theorem dX4_gainAt_32 : decode cX4_gainAt 32 = .ok (.lload_n 2, 1) := by decide +kernel
theorem dX4_gainAt_33 : decode cX4_gainAt 33 = .ok (.lneg, 1) := by decide +kernel
theorem dX4_gainAt_34 : decode cX4_gainAt 34 = .ok (.lreturn, 1) := by decide +kernel
set_option maxRecDepth 20000 in
theorem ggX5_init_X1_init : GoodIn wsX5_init wsX1_init := goodIn_r _ [19, 20, 2, 3, 21, 22, 44, 45] (by decide +kernel) (by decide +kernel)
set_option maxRecDepth 20000 in
theorem gX5_init_X1_init_n11 : GoodIn wsX5_init (wsX1_init) := ggX5_init_X1_init
set_option maxRecDepth 20000 in
theorem ggX5_init_X2_init : GoodIn wsX5_init wsX2_init := goodIn_r _ [25, 26, 2, 3, 27, 28, 51, 52, 53] (by decide +kernel) (by decide +kernel)
set_option maxRecDepth 20000 in
theorem gX5_init_X2_init : GoodIn wsX5_init (wsX2_init) := ggX5_init_X2_init
set_option maxRecDepth 20000 in
theorem ggX5_init_X3_init : GoodIn wsX5_init wsX3_init := goodIn_r _ [30, 31, 2, 3, 32, 33, 34, 35, 36, 37, 38, 39, 40, 41, 42, 43, 54, 55, 56, 57] (by decide +kernel) (by decide +kernel)
set_option maxRecDepth 20000 in
theorem gX5_init_X3_init_n31 : GoodIn wsX5_init (wsX3_init) := ggX5_init_X3_init
end
section
theorem dX5_init_0 : decode cX5_init 0 = .ok (.aload_n 0, 1) := by decide +kernel
theorem dX5_init_1 : decode cX5_init 1 = .ok (.invokespecial 3, 3) := by decide +kernel
theorem dX5_init_4 : decode cX5_init 4 = .ok (.aload_n 0, 1) := by decide +kernel
theorem dX5_init_5 : decode cX5_init 5 = .ok (.new 9, 3) := by decide +kernel
theorem dX5_init_8 : decode cX5_init 8 = .ok (.dup, 1) := by decide +kernel
theorem dX5_init_9 : decode cX5_init 9 = .ok (.invokespecial 11, 3) := by decide +kernel
theorem dX5_init_12 : decode cX5_init 12 = .ok (.putfield 12, 3) := by decide +kernel
theorem dX5_init_15 : decode cX5_init 15 = .ok (.aload_n 0, 1) := by decide +kernel
theorem dX5_init_16 : decode cX5_init 16 = .ok (.iconst 4, 1) := by decide +kernel
theorem dX5_init_17 : decode cX5_init 17 = .ok (.anewarray 16, 3) := by decide +kernel
theorem dX5_init_20 : decode cX5_init 20 = .ok (.putfield 18, 3) := by decide +kernel
theorem dX5_init_23 : decode cX5_init 23 = .ok (.iconst 0, 1) := by decide +kernel
theorem dX5_init_24 : decode cX5_init 24 = .ok (.istore_n 1, 1) := by decide +kernel
theorem dX5_init_25 : decode cX5_init 25 = .ok (.iload_n 1, 1) := by decide +kernel
theorem dX5_init_26 : decode cX5_init 26 = .ok (.aload_n 0, 1) := by decide +kernel
theorem dX5_init_27 : decode cX5_init 27 = .ok (.getfield 18, 3) := by decide +kernel
theorem dX5_init_30 : decode cX5_init 30 = .ok (.arraylength, 1) := by decide +kernel
theorem dX5_init_31 : decode cX5_init 31 = .ok (.if_icmp .ge 23, 3) := by decide +kernel
theorem dX5_init_34 : decode cX5_init 34 = .ok (.aload_n 0, 1) := by decide +kernel
theorem dX5_init_35 : decode cX5_init 35 = .ok (.getfield 18, 3) := by decide +kernel
theorem dX5_init_38 : decode cX5_init 38 = .ok (.iload_n 1, 1) := by decide +kernel
theorem dX5_init_39 : decode cX5_init 39 = .ok (.new 16, 3) := by decide +kernel
theorem dX5_init_42 : decode cX5_init 42 = .ok (.dup, 1) := by decide +kernel
theorem dX5_init_43 : decode cX5_init 43 = .ok (.iload_n 1, 1) := by decide +kernel
theorem dX5_init_44 : decode cX5_init 44 = .ok (.invokespecial 22, 3) := by decide +kernel
theorem dX5_init_47 : decode cX5_init 47 = .ok (.aastore, 1) := by decide +kernel
theorem dX5_init_48 : decode cX5_init 48 = .ok (.iinc 1 1, 3) := by decide +kernel
theorem dX5_init_51 : decode cX5_init 51 = .ok (.goto (-26), 3) := by decide +kernel
theorem dX5_init_54 : decode cX5_init 54 = .ok (.aload_n 0, 1) := by decide +kernel
theorem dX5_init_55 : decode cX5_init 55 = .ok (.iconst 5, 1) := by decide +kernel
theorem dX5_init_56 : decode cX5_init 56 = .ok (.anewarray 25, 3) := by decide +kernel
theorem dX5_init_59 : decode cX5_init 59 = .ok (.putfield 27, 3) := by decide +kernel
theorem dX5_init_62 : decode cX5_init 62 = .ok (.iconst 0, 1) := by decide +kernel
theorem dX5_init_63 : decode cX5_init 63 = .ok (.istore_n 1, 1) := by decide +kernel
theorem dX5_init_64 : decode cX5_init 64 = .ok (.iload_n 1, 1) := by decide +kernel
theorem dX5_init_65 : decode cX5_init 65 = .ok (.aload_n 0, 1) := by decide +kernel
theorem dX5_init_66 : decode cX5_init 66 = .ok (.getfield 27, 3) := by decide +kernel
theorem dX5_init_69 : decode cX5_init 69 = .ok (.arraylength, 1) := by decide +kernel
theorem dX5_init_70 : decode cX5_init 70 = .ok (.if_icmp .ge 22, 3) := by decide +kernel
theorem dX5_init_73 : decode cX5_init 73 = .ok (.aload_n 0, 1) := by decide +kernel
theorem dX5_init_74 : decode cX5_init 74 = .ok (.getfield 27, 3) := by decide +kernel
theorem dX5_init_77 : decode cX5_init 77 = .ok (.iload_n 1, 1) := by decide +kernel
theorem dX5_init_78 : decode cX5_init 78 = .ok (.new 25, 3) := by decide +kernel
theorem dX5_init_81 : decode cX5_init 81 = .ok (.dup, 1) := by decide +kernel
theorem dX5_init_82 : decode cX5_init 82 = .ok (.invokespecial 31, 3) := by decide +kernel
theorem dX5_init_85 : decode cX5_init 85 = .ok (.aastore, 1) := by decide +kernel
theorem dX5_init_86 : decode cX5_init 86 = .ok (.iinc 1 1, 3) := by decide +kernel
theorem dX5_init_89 : decode cX5_init 89 = .ok (.goto (-25), 3) := by decide +kernel
theorem dX5_init_92 : decode cX5_init 92 = .ok (.aload_n 0, 1) := by decide +kernel
theorem dX5_init_93 : decode cX5_init 93 = .ok (.bipush 20, 2) := by decide +kernel
theorem dX5_init_95 : decode cX5_init 95 = .ok (.anewarray 32, 3) := by decide +kernel
theorem dX5_init_98 : decode cX5_init 98 = .ok (.putfield 34, 3) := by decide +kernel
theorem dX5_init_101 : decode cX5_init 101 = .ok (.return_, 1) := by decide +kernel
set_option maxRecDepth 20000 in
theorem ggX5_setRate_X5_currencyNumbered : GoodIn wsX5_setRate wsX5_currencyNumbered := goodIn_ca (goodIn_r _ [6, 7, 8, 9, 10, 11, 5, 12, 21, 22, 23, 24, 25] (by decide +kernel) (by decide +kernel)) (goodIn_sub (fun _ h => List.mem_cons_of_mem _ (List.mem_append_left _ (List.mem_append_right _ h))) (by decide +kernel))
set_option maxRecDepth 20000 in
theorem gX5_setRate_X5_currencyNumbered : GoodIn wsX5_setRate (wsV RX5 38 RX5 yX5_currencyNumbered wsX5_currencyNumbered) := goodIn_app (goodIn_of _ (by decide +kernel)) ggX5_setRate_X5_currencyNumbered
set_option maxRecDepth 20000 in
theorem ggX5_setRate_X5_requireRange : GoodIn wsX5_setRate wsX5_requireRange := goodIn_ca (goodIn_r _ [15, 16, 17] (by decide +kernel) (by decide +kernel)) (goodIn_sub (fun _ h => List.mem_cons_of_mem _ (List.mem_append_right _ h)) (by decide +kernel))
set_option maxRecDepth 20000 in
theorem gX5_setRate_X5_requireRange : GoodIn wsX5_setRate (va_wsS RX5 43 yX5_requireRange wsX5_requireRange) := goodIn_app (goodIn_of _ (by decide +kernel)) ggX5_setRate_X5_requireRange
theorem dX5_setRate_0 : decode cX5_setRate 0 = .ok (.aload_n 0, 1) := by decide +kernel
theorem dX5_setRate_1 : decode cX5_setRate 1 = .ok (.iload_n 1, 1) := by decide +kernel
theorem dX5_setRate_2 : decode cX5_setRate 2 = .ok (.invokevirtual 38, 3) := by decide +kernel
theorem dX5_setRate_5 : decode cX5_setRate 5 = .ok (.astore_n 3, 1) := by decide +kernel
theorem dX5_setRate_6 : decode cX5_setRate 6 = .ok (.iload_n 2, 1) := by decide +kernel
theorem dX5_setRate_7 : decode cX5_setRate 7 = .ok (.iconst 1, 1) := by decide +kernel
theorem dX5_setRate_8 : decode cX5_setRate 8 = .ok (.ldc 42, 2) := by decide +kernel
theorem dX5_setRate_10 : decode cX5_setRate 10 = .ok (.invokestatic 43, 3) := by decide +kernel
theorem dX5_setRate_13 : decode cX5_setRate 13 = .ok (.aload_n 3, 1) := by decide +kernel
theorem dX5_setRate_14 : decode cX5_setRate 14 = .ok (.getfield 47, 3) := by decide +kernel
theorem dX5_setRate_17 : decode cX5_setRate 17 = .ok (.istore 4, 2) := by decide +kernel
theorem dX5_setRate_19 : decode cX5_setRate 19 = .ok (.aload_n 3, 1) := by decide +kernel
theorem dX5_setRate_20 : decode cX5_setRate 20 = .ok (.iload_n 2, 1) := by decide +kernel
theorem dX5_setRate_21 : decode cX5_setRate 21 = .ok (.putfield 47, 3) := by decide +kernel
theorem dX5_setRate_24 : decode cX5_setRate 24 = .ok (.iload 4, 2) := by decide +kernel
theorem dX5_setRate_26 : decode cX5_setRate 26 = .ok (.ireturn, 1) := by decide +kernel
set_option maxRecDepth 20000 in
theorem ggX5_setPoints_X5_currencyNumbered : GoodIn wsX5_setPoints wsX5_currencyNumbered := goodIn_ca (goodIn_r _ [5, 6, 7, 8, 9, 10, 4, 11, 20, 21, 22, 23, 24] (by decide +kernel) (by decide +kernel)) (goodIn_sub (fun _ h => List.mem_cons_of_mem _ (List.mem_append_left _ (List.mem_append_right _ h))) (by decide +kernel))
set_option maxRecDepth 20000 in
theorem gX5_setPoints_X5_currencyNumbered : GoodIn wsX5_setPoints (wsV RX5 38 RX5 yX5_currencyNumbered wsX5_currencyNumbered) := goodIn_app (goodIn_of _ (by decide +kernel)) ggX5_setPoints_X5_currencyNumbered
set_option maxRecDepth 20000 in
theorem ggX5_setPoints_X5_requireRange : GoodIn wsX5_setPoints wsX5_requireRange := goodIn_ca (goodIn_r _ [14, 15, 16] (by decide +kernel) (by decide +kernel)) (goodIn_sub (fun _ h => List.mem_cons_of_mem _ (List.mem_append_right _ h)) (by decide +kernel))
set_option maxRecDepth 20000 in
theorem gX5_setPoints_X5_requireRange : GoodIn wsX5_setPoints (va_wsS RX5 43 yX5_requireRange wsX5_requireRange) := goodIn_app (goodIn_of _ (by decide +kernel)) ggX5_setPoints_X5_requireRange
theorem dX5_setPoints_0 : decode cX5_setPoints 0 = .ok (.aload_n 0, 1) := by decide +kernel
theorem dX5_setPoints_1 : decode cX5_setPoints 1 = .ok (.iload_n 1, 1) := by decide +kernel
theorem dX5_setPoints_2 : decode cX5_setPoints 2 = .ok (.invokevirtual 38, 3) := by decide +kernel
theorem dX5_setPoints_5 : decode cX5_setPoints 5 = .ok (.astore_n 3, 1) := by decide +kernel
theorem dX5_setPoints_6 : decode cX5_setPoints 6 = .ok (.iload_n 2, 1) := by decide +kernel
theorem dX5_setPoints_7 : decode cX5_setPoints 7 = .ok (.bipush (-50), 2) := by decide +kernel
theorem dX5_setPoints_9 : decode cX5_setPoints 9 = .ok (.bipush 50, 2) := by decide +kernel
theorem dX5_setPoints_11 : decode cX5_setPoints 11 = .ok (.invokestatic 43, 3) := by decide +kernel
theorem dX5_setPoints_14 : decode cX5_setPoints 14 = .ok (.aload_n 3, 1) := by decide +kernel
theorem dX5_setPoints_15 : decode cX5_setPoints 15 = .ok (.getfield 51, 3) := by decide +kernel
theorem dX5_setPoints_18 : decode cX5_setPoints 18 = .ok (.istore 4, 2) := by decide +kernel
theorem dX5_setPoints_20 : decode cX5_setPoints 20 = .ok (.aload_n 3, 1) := by decide +kernel
theorem dX5_setPoints_21 : decode cX5_setPoints 21 = .ok (.iload_n 2, 1) := by decide +kernel
theorem dX5_setPoints_22 : decode cX5_setPoints 22 = .ok (.putfield 51, 3) := by decide +kernel
theorem dX5_setPoints_25 : decode cX5_setPoints 25 = .ok (.iload 4, 2) := by decide +kernel
theorem dX5_setPoints_27 : decode cX5_setPoints 27 = .ok (.ireturn, 1) := by decide +kernel
set_option maxRecDepth 20000 in
theorem ggX5_toggleHoliday_X5_requireRange : GoodIn wsX5_toggleHoliday wsX5_requireRange := goodIn_ca (goodIn_r _ [7, 8, 9] (by decide +kernel) (by decide +kernel)) (goodIn_sub (fun _ h => List.mem_cons_of_mem _ (List.mem_append_right _ h)) (by decide +kernel))
set_option maxRecDepth 20000 in
theorem gX5_toggleHoliday_X5_requireRange : GoodIn wsX5_toggleHoliday (va_wsS RX5 43 yX5_requireRange wsX5_requireRange) := goodIn_app (goodIn_of _ (by decide +kernel)) ggX5_toggleHoliday_X5_requireRange
set_option maxRecDepth 20000 in
theorem ggX5_toggleHoliday_X1_flipHoliday : GoodIn wsX5_toggleHoliday wsX1_flipHoliday := goodIn_r _ [14, 15, 16, 6, 17, 23, 24] (by decide +kernel) (by decide +kernel)
set_option maxRecDepth 20000 in
theorem gX5_toggleHoliday_X1_flipHoliday : GoodIn wsX5_toggleHoliday (wsV RX5 64 RX1 yX1_flipHoliday wsX1_flipHoliday) := goodIn_app (goodIn_of _ (by decide +kernel)) ggX5_toggleHoliday_X1_flipHoliday
theorem dX5_toggleHoliday_0 : decode cX5_toggleHoliday 0 = .ok (.iload_n 1, 1) := by decide +kernel
theorem dX5_toggleHoliday_1 : decode cX5_toggleHoliday 1 = .ok (.iconst 1, 1) := by decide +kernel
theorem dX5_toggleHoliday_2 : decode cX5_toggleHoliday 2 = .ok (.sipush 1000, 3) := by decide +kernel
theorem dX5_toggleHoliday_5 : decode cX5_toggleHoliday 5 = .ok (.invokestatic 43, 3) := by decide +kernel
theorem dX5_toggleHoliday_8 : decode cX5_toggleHoliday 8 = .ok (.iload_n 1, 1) := by decide +kernel
theorem dX5_toggleHoliday_9 : decode cX5_toggleHoliday 9 = .ok (.aload_n 0, 1) := by decide +kernel
theorem dX5_toggleHoliday_10 : decode cX5_toggleHoliday 10 = .ok (.getfield 12, 3) := by decide +kernel
theorem dX5_toggleHoliday_13 : decode cX5_toggleHoliday 13 = .ok (.getfield 54, 3) := by decide +kernel
theorem dX5_toggleHoliday_16 : decode cX5_toggleHoliday 16 = .ok (.if_icmp .gt 13, 3) := by decide +kernel
theorem dX5_toggleHoliday_19 : decode cX5_toggleHoliday 19 = .ok (.new 57, 3) := by decide +kernel
theorem dX5_toggleHoliday_22 : decode cX5_toggleHoliday 22 = .ok (.dup, 1) := by decide +kernel
theorem dX5_toggleHoliday_23 : decode cX5_toggleHoliday 23 = .ok (.ldc 59, 2) := by decide +kernel
theorem dX5_toggleHoliday_25 : decode cX5_toggleHoliday 25 = .ok (.invokespecial 61, 3) := by decide +kernel
theorem dX5_toggleHoliday_28 : decode cX5_toggleHoliday 28 = .ok (.athrow, 1) := by decide +kernel
theorem dX5_toggleHoliday_29 : decode cX5_toggleHoliday 29 = .ok (.aload_n 0, 1) := by decide +kernel
theorem dX5_toggleHoliday_30 : decode cX5_toggleHoliday 30 = .ok (.getfield 12, 3) := by decide +kernel
theorem dX5_toggleHoliday_33 : decode cX5_toggleHoliday 33 = .ok (.iload_n 1, 1) := by decide +kernel
theorem dX5_toggleHoliday_34 : decode cX5_toggleHoliday 34 = .ok (.invokevirtual 64, 3) := by decide +kernel
theorem dX5_toggleHoliday_37 : decode cX5_toggleHoliday 37 = .ok (.ireturn, 1) := by decide +kernel
set_option maxRecDepth 20000 in
theorem ggX5_setLimit_X5_customerNumbered : GoodIn wsX5_setLimit wsX5_customerNumbered := goodIn_ca (goodIn_r _ [6, 7, 8, 9, 10, 11, 5, 12, 21, 22, 23, 24, 25] (by decide +kernel) (by decide +kernel)) (goodIn_sub (fun _ h => List.mem_cons_of_mem _ (List.mem_append_left _ (List.mem_append_right _ h))) (by decide +kernel))
set_option maxRecDepth 20000 in
theorem gX5_setLimit_X5_customerNumbered : GoodIn wsX5_setLimit (wsV RX5 68 RX5 yX5_customerNumbered wsX5_customerNumbered) := goodIn_app (goodIn_of _ (by decide +kernel)) ggX5_setLimit_X5_customerNumbered
set_option maxRecDepth 20000 in
theorem ggX5_setLimit_X5_requireRange : GoodIn wsX5_setLimit wsX5_requireRange := goodIn_ca (goodIn_r _ [15, 16, 17] (by decide +kernel) (by decide +kernel)) (goodIn_sub (fun _ h => List.mem_cons_of_mem _ (List.mem_append_right _ h)) (by decide +kernel))
set_option maxRecDepth 20000 in
theorem gX5_setLimit_X5_requireRange : GoodIn wsX5_setLimit (va_wsS RX5 43 yX5_requireRange wsX5_requireRange) := goodIn_app (goodIn_of _ (by decide +kernel)) ggX5_setLimit_X5_requireRange
theorem dX5_setLimit_0 : decode cX5_setLimit 0 = .ok (.aload_n 0, 1) := by decide +kernel
theorem dX5_setLimit_1 : decode cX5_setLimit 1 = .ok (.iload_n 1, 1) := by decide +kernel
theorem dX5_setLimit_2 : decode cX5_setLimit 2 = .ok (.invokevirtual 68, 3) := by decide +kernel
theorem dX5_setLimit_5 : decode cX5_setLimit 5 = .ok (.astore_n 3, 1) := by decide +kernel
theorem dX5_setLimit_6 : decode cX5_setLimit 6 = .ok (.iload_n 2, 1) := by decide +kernel
theorem dX5_setLimit_7 : decode cX5_setLimit 7 = .ok (.iconst 0, 1) := by decide +kernel
theorem dX5_setLimit_8 : decode cX5_setLimit 8 = .ok (.ldc 72, 2) := by decide +kernel
theorem dX5_setLimit_10 : decode cX5_setLimit 10 = .ok (.invokestatic 43, 3) := by decide +kernel
theorem dX5_setLimit_13 : decode cX5_setLimit 13 = .ok (.aload_n 3, 1) := by decide +kernel
theorem dX5_setLimit_14 : decode cX5_setLimit 14 = .ok (.getfield 73, 3) := by decide +kernel
theorem dX5_setLimit_17 : decode cX5_setLimit 17 = .ok (.istore 4, 2) := by decide +kernel
theorem dX5_setLimit_19 : decode cX5_setLimit 19 = .ok (.aload_n 3, 1) := by decide +kernel
theorem dX5_setLimit_20 : decode cX5_setLimit 20 = .ok (.iload_n 2, 1) := by decide +kernel
theorem dX5_setLimit_21 : decode cX5_setLimit 21 = .ok (.putfield 73, 3) := by decide +kernel
theorem dX5_setLimit_24 : decode cX5_setLimit 24 = .ok (.iload 4, 2) := by decide +kernel
theorem dX5_setLimit_26 : decode cX5_setLimit 26 = .ok (.ireturn, 1) := by decide +kernel
set_option maxRecDepth 20000 in
theorem ggX5_forward_X5_currencyNumbered : GoodIn wsX5_forward wsX5_currencyNumbered := goodIn_ca (goodIn_r _ [5, 6, 7, 8, 9, 10, 4, 11, 32, 33, 34, 35, 36] (by decide +kernel) (by decide +kernel)) (goodIn_sub (fun _ h => List.mem_cons_of_mem _ (List.mem_append_left _ (List.mem_append_right _ h))) (by decide +kernel))
set_option maxRecDepth 20000 in
theorem gX5_forward_X5_currencyNumbered : GoodIn wsX5_forward (wsV RX5 38 RX5 yX5_currencyNumbered wsX5_currencyNumbered) := goodIn_app (goodIn_of _ (by decide +kernel)) ggX5_forward_X5_currencyNumbered
set_option maxRecDepth 20000 in
theorem ggX5_forward_X5_requireRange : GoodIn wsX5_forward wsX5_requireRange := goodIn_ca (goodIn_r _ [14, 15, 16] (by decide +kernel) (by decide +kernel)) (goodIn_sub (fun _ h => List.mem_cons_of_mem _ (List.mem_append_right _ h)) (by decide +kernel))
set_option maxRecDepth 20000 in
theorem gX5_forward_X5_requireRange : GoodIn wsX5_forward (va_wsS RX5 43 yX5_requireRange wsX5_requireRange) := goodIn_app (goodIn_of _ (by decide +kernel)) ggX5_forward_X5_requireRange
set_option maxRecDepth 20000 in
theorem ggX5_forward_X2_forwardRate : GoodIn wsX5_forward wsX2_forwardRate := goodIn_r _ [21, 22, 23, 24, 25, 20, 26, 27, 28, 29, 30, 31, 37, 38, 39] (by decide +kernel) (by decide +kernel)
set_option maxRecDepth 20000 in
theorem gX5_forward_X2_forwardRate : GoodIn wsX5_forward (wsV RX5 76 RX2 yX2_forwardRate wsX2_forwardRate) := goodIn_app (goodIn_of _ (by decide +kernel)) ggX5_forward_X2_forwardRate
theorem dX5_forward_0 : decode cX5_forward 0 = .ok (.aload_n 0, 1) := by decide +kernel
theorem dX5_forward_1 : decode cX5_forward 1 = .ok (.iload_n 1, 1) := by decide +kernel
theorem dX5_forward_2 : decode cX5_forward 2 = .ok (.invokevirtual 38, 3) := by decide +kernel
theorem dX5_forward_5 : decode cX5_forward 5 = .ok (.astore_n 3, 1) := by decide +kernel
theorem dX5_forward_6 : decode cX5_forward 6 = .ok (.iload_n 2, 1) := by decide +kernel
theorem dX5_forward_7 : decode cX5_forward 7 = .ok (.iconst 0, 1) := by decide +kernel
theorem dX5_forward_8 : decode cX5_forward 8 = .ok (.sipush 400, 3) := by decide +kernel
theorem dX5_forward_11 : decode cX5_forward 11 = .ok (.invokestatic 43, 3) := by decide +kernel
theorem dX5_forward_14 : decode cX5_forward 14 = .ok (.aload_n 3, 1) := by decide +kernel
theorem dX5_forward_15 : decode cX5_forward 15 = .ok (.iload_n 2, 1) := by decide +kernel
theorem dX5_forward_16 : decode cX5_forward 16 = .ok (.invokevirtual 76, 3) := by decide +kernel
theorem dX5_forward_19 : decode cX5_forward 19 = .ok (.ireturn, 1) := by decide +kernel
set_option maxRecDepth 20000 in
theorem ggX5_deal_X5_customerNumbered : GoodIn wsX5_deal wsX5_customerNumbered := goodIn_ca (goodIn_r _ [14, 15, 16, 17, 18, 19, 13, 20, 90, 91, 92, 93, 94] (by decide +kernel) (by decide +kernel)) (goodIn_sub (fun _ h => List.mem_cons_of_mem _ (List.mem_append_left _ (List.mem_append_right _ h))) (by decide +kernel))
set_option maxRecDepth 20000 in
theorem gX5_deal_X5_customerNumbered : GoodIn wsX5_deal (wsV RX5 68 RX5 yX5_customerNumbered wsX5_customerNumbered) := goodIn_app (goodIn_of _ (by decide +kernel)) ggX5_deal_X5_customerNumbered
set_option maxRecDepth 20000 in
theorem ggX5_deal_X5_currencyNumbered : GoodIn wsX5_deal wsX5_currencyNumbered := goodIn_ca (goodIn_r _ [24, 15, 16, 25, 18, 19, 13, 20, 90, 91, 92, 93, 94] (by decide +kernel) (by decide +kernel)) (goodIn_sub (fun _ h => List.mem_cons_of_mem _ (List.mem_append_left _ (List.mem_append_right _ h))) (by decide +kernel))
set_option maxRecDepth 20000 in
theorem gX5_deal_X5_currencyNumbered : GoodIn wsX5_deal (wsV RX5 38 RX5 yX5_currencyNumbered wsX5_currencyNumbered) := goodIn_app (goodIn_of _ (by decide +kernel)) ggX5_deal_X5_currencyNumbered
set_option maxRecDepth 20000 in
theorem ggX5_deal_X5_requireRange : GoodIn wsX5_deal wsX5_requireRange := goodIn_ca (goodIn_r _ [28, 29, 30] (by decide +kernel) (by decide +kernel)) (goodIn_sub (fun _ h => List.mem_cons_of_mem _ (List.mem_append_right _ h)) (by decide +kernel))
set_option maxRecDepth 20000 in
theorem gX5_deal_X5_requireRange : GoodIn wsX5_deal (va_wsS RX5 43 yX5_requireRange wsX5_requireRange) := goodIn_app (goodIn_of _ (by decide +kernel)) ggX5_deal_X5_requireRange
set_option maxRecDepth 20000 in
theorem ggX5_deal_X5_isIndex : GoodIn wsX5_deal wsX5_isIndex := goodIn_r _ [20] (by decide +kernel) (by decide +kernel)
set_option maxRecDepth 20000 in
theorem gX5_deal_X5_isIndex : GoodIn wsX5_deal (va_wsS RX5 84 yX5_isIndex wsX5_isIndex) := goodIn_app (goodIn_of _ (by decide +kernel)) ggX5_deal_X5_isIndex
set_option maxRecDepth 20000 in
theorem ggX5_deal_X2_forwardRate : GoodIn wsX5_deal wsX2_forwardRate := goodIn_r _ [35, 36, 37, 38, 39, 34, 40, 41, 42, 43, 44, 45, 107, 108, 109] (by decide +kernel) (by decide +kernel)
set_option maxRecDepth 20000 in
theorem gX5_deal_X2_forwardRate : GoodIn wsX5_deal (wsV RX5 76 RX2 yX2_forwardRate wsX2_forwardRate) := goodIn_app (goodIn_of _ (by decide +kernel)) ggX5_deal_X2_forwardRate
set_option maxRecDepth 20000 in
theorem ggX5_deal_X4_init : GoodIn wsX5_deal wsX4_init := goodIn_r _ [48, 49, 50, 51, 52, 53, 54, 55, 56, 57, 58, 97, 98, 99, 100, 101, 102, 103] (by decide +kernel) (by decide +kernel)
set_option maxRecDepth 20000 in
theorem gX5_deal_X4_init : GoodIn wsX5_deal (wsX4_init) := ggX5_deal_X4_init
set_option maxRecDepth 20000 in
theorem ggX5_deal_X5_exposureWith : GoodIn wsX5_deal wsX5_exposureWith := goodIn_r _ [62, 6, 63, 64, 65, 13, 66, 5, 67, 68, 69, 9, 70, 71, 43, 44, 45, 72, 73, 74, 75, 53, 58, 76, 32, 33, 34, 35, 36, 37, 38, 39, 40, 41, 42, 77, 78, 79, 80, 55, 56, 54, 81, 82, 83, 84, 85, 86, 87, 88, 89, 90, 91, 92, 93, 94, 95, 96, 97, 98, 99, 100, 101, 102, 103, 107, 108, 109] (by decide +kernel) (by decide +kernel)
set_option maxRecDepth 20000 in
theorem gX5_deal_X5_exposureWith : GoodIn wsX5_deal (wsV RX5 93 RX5 yX5_exposureWith wsX5_exposureWith) := goodIn_app (goodIn_of _ (by decide +kernel)) ggX5_deal_X5_exposureWith
theorem dX5_deal_0 : decode cX5_deal 0 = .ok (.aload_n 0, 1) := by decide +kernel
theorem dX5_deal_1 : decode cX5_deal 1 = .ok (.iload_n 1, 1) := by decide +kernel
theorem dX5_deal_2 : decode cX5_deal 2 = .ok (.invokevirtual 68, 3) := by decide +kernel
theorem dX5_deal_5 : decode cX5_deal 5 = .ok (.astore 7, 2) := by decide +kernel
theorem dX5_deal_7 : decode cX5_deal 7 = .ok (.aload_n 0, 1) := by decide +kernel
theorem dX5_deal_8 : decode cX5_deal 8 = .ok (.iload_n 2, 1) := by decide +kernel
theorem dX5_deal_9 : decode cX5_deal 9 = .ok (.invokevirtual 38, 3) := by decide +kernel
theorem dX5_deal_12 : decode cX5_deal 12 = .ok (.astore 8, 2) := by decide +kernel
theorem dX5_deal_14 : decode cX5_deal 14 = .ok (.iload 4, 2) := by decide +kernel
theorem dX5_deal_16 : decode cX5_deal 16 = .ok (.iconst 1, 1) := by decide +kernel
theorem dX5_deal_17 : decode cX5_deal 17 = .ok (.ldc 80, 2) := by decide +kernel
theorem dX5_deal_19 : decode cX5_deal 19 = .ok (.invokestatic 43, 3) := by decide +kernel
theorem dX5_deal_22 : decode cX5_deal 22 = .ok (.iload 5, 2) := by decide +kernel
theorem dX5_deal_24 : decode cX5_deal 24 = .ok (.iconst 0, 1) := by decide +kernel
theorem dX5_deal_25 : decode cX5_deal 25 = .ok (.sipush 400, 3) := by decide +kernel
theorem dX5_deal_28 : decode cX5_deal 28 = .ok (.invokestatic 43, 3) := by decide +kernel
theorem dX5_deal_31 : decode cX5_deal 31 = .ok (.iload 6, 2) := by decide +kernel
theorem dX5_deal_33 : decode cX5_deal 33 = .ok (.iload 5, 2) := by decide +kernel
theorem dX5_deal_35 : decode cX5_deal 35 = .ok (.sipush 400, 3) := by decide +kernel
theorem dX5_deal_38 : decode cX5_deal 38 = .ok (.invokestatic 43, 3) := by decide +kernel
theorem dX5_deal_41 : decode cX5_deal 41 = .ok (.aload_n 0, 1) := by decide +kernel
theorem dX5_deal_42 : decode cX5_deal 42 = .ok (.getfield 81, 3) := by decide +kernel
theorem dX5_deal_45 : decode cX5_deal 45 = .ok (.istore 9, 2) := by decide +kernel
theorem dX5_deal_47 : decode cX5_deal 47 = .ok (.iload 9, 2) := by decide +kernel
theorem dX5_deal_49 : decode cX5_deal 49 = .ok (.aload_n 0, 1) := by decide +kernel
theorem dX5_deal_50 : decode cX5_deal 50 = .ok (.getfield 34, 3) := by decide +kernel
theorem dX5_deal_53 : decode cX5_deal 53 = .ok (.arraylength, 1) := by decide +kernel
theorem dX5_deal_54 : decode cX5_deal 54 = .ok (.invokestatic 84, 3) := by decide +kernel
theorem dX5_deal_57 : decode cX5_deal 57 = .ok (.ifCond .ne 13, 3) := by decide +kernel
theorem dX5_deal_60 : decode cX5_deal 60 = .ok (.new 57, 3) := by decide +kernel
theorem dX5_deal_63 : decode cX5_deal 63 = .ok (.dup, 1) := by decide +kernel
theorem dX5_deal_64 : decode cX5_deal 64 = .ok (.ldc 88, 2) := by decide +kernel
theorem dX5_deal_66 : decode cX5_deal 66 = .ok (.invokespecial 61, 3) := by decide +kernel
theorem dX5_deal_69 : decode cX5_deal 69 = .ok (.athrow, 1) := by decide +kernel
theorem dX5_deal_70 : decode cX5_deal 70 = .ok (.aload_n 0, 1) := by decide +kernel
theorem dX5_deal_71 : decode cX5_deal 71 = .ok (.getfield 12, 3) := by decide +kernel
theorem dX5_deal_74 : decode cX5_deal 74 = .ok (.getfield 54, 3) := by decide +kernel
theorem dX5_deal_77 : decode cX5_deal 77 = .ok (.istore 10, 2) := by decide +kernel
theorem dX5_deal_79 : decode cX5_deal 79 = .ok (.new 32, 3) := by decide +kernel
theorem dX5_deal_82 : decode cX5_deal 82 = .ok (.dup, 1) := by decide +kernel
theorem dX5_deal_83 : decode cX5_deal 83 = .ok (.aload 7, 2) := by decide +kernel
theorem dX5_deal_85 : decode cX5_deal 85 = .ok (.aload 8, 2) := by decide +kernel
theorem dX5_deal_87 : decode cX5_deal 87 = .ok (.iload_n 3, 1) := by decide +kernel
theorem dX5_deal_88 : decode cX5_deal 88 = .ok (.iload 4, 2) := by decide +kernel
theorem dX5_deal_90 : decode cX5_deal 90 = .ok (.aload 8, 2) := by decide +kernel
theorem dX5_deal_92 : decode cX5_deal 92 = .ok (.iload 6, 2) := by decide +kernel
theorem dX5_deal_94 : decode cX5_deal 94 = .ok (.invokevirtual 76, 3) := by decide +kernel
theorem dX5_deal_97 : decode cX5_deal 97 = .ok (.iload 10, 2) := by decide +kernel
theorem dX5_deal_99 : decode cX5_deal 99 = .ok (.iload 5, 2) := by decide +kernel
theorem dX5_deal_101 : decode cX5_deal 101 = .ok (.iadd, 1) := by decide +kernel
theorem dX5_deal_102 : decode cX5_deal 102 = .ok (.iload 10, 2) := by decide +kernel
theorem dX5_deal_104 : decode cX5_deal 104 = .ok (.iload 6, 2) := by decide +kernel
theorem dX5_deal_106 : decode cX5_deal 106 = .ok (.iadd, 1) := by decide +kernel
theorem dX5_deal_107 : decode cX5_deal 107 = .ok (.invokespecial 90, 3) := by decide +kernel
theorem dX5_deal_110 : decode cX5_deal 110 = .ok (.astore 11, 2) := by decide +kernel
theorem dX5_deal_112 : decode cX5_deal 112 = .ok (.aload_n 0, 1) := by decide +kernel
theorem dX5_deal_113 : decode cX5_deal 113 = .ok (.aload 7, 2) := by decide +kernel
theorem dX5_deal_115 : decode cX5_deal 115 = .ok (.aload 11, 2) := by decide +kernel
theorem dX5_deal_117 : decode cX5_deal 117 = .ok (.invokevirtual 93, 3) := by decide +kernel
theorem dX5_deal_120 : decode cX5_deal 120 = .ok (.aload 7, 2) := by decide +kernel
theorem dX5_deal_122 : decode cX5_deal 122 = .ok (.getfield 73, 3) := by decide +kernel
theorem dX5_deal_125 : decode cX5_deal 125 = .ok (.i2l, 1) := by decide +kernel
theorem dX5_deal_126 : decode cX5_deal 126 = .ok (.lcmp, 1) := by decide +kernel
theorem dX5_deal_127 : decode cX5_deal 127 = .ok (.ifCond .le 13, 3) := by decide +kernel
theorem dX5_deal_130 : decode cX5_deal 130 = .ok (.new 57, 3) := by decide +kernel
theorem dX5_deal_133 : decode cX5_deal 133 = .ok (.dup, 1) := by decide +kernel
theorem dX5_deal_134 : decode cX5_deal 134 = .ok (.ldc 97, 2) := by decide +kernel
theorem dX5_deal_136 : decode cX5_deal 136 = .ok (.invokespecial 61, 3) := by decide +kernel
theorem dX5_deal_139 : decode cX5_deal 139 = .ok (.athrow, 1) := by decide +kernel
theorem dX5_deal_140 : decode cX5_deal 140 = .ok (.aload_n 0, 1) := by decide +kernel
theorem dX5_deal_141 : decode cX5_deal 141 = .ok (.getfield 34, 3) := by decide +kernel
theorem dX5_deal_144 : decode cX5_deal 144 = .ok (.iload 9, 2) := by decide +kernel
theorem dX5_deal_146 : decode cX5_deal 146 = .ok (.aload 11, 2) := by decide +kernel
theorem dX5_deal_148 : decode cX5_deal 148 = .ok (.aastore, 1) := by decide +kernel
theorem dX5_deal_149 : decode cX5_deal 149 = .ok (.aload_n 0, 1) := by decide +kernel
theorem dX5_deal_150 : decode cX5_deal 150 = .ok (.iload 9, 2) := by decide +kernel
theorem dX5_deal_152 : decode cX5_deal 152 = .ok (.iconst 1, 1) := by decide +kernel
theorem dX5_deal_153 : decode cX5_deal 153 = .ok (.iadd, 1) := by decide +kernel
theorem dX5_deal_154 : decode cX5_deal 154 = .ok (.putfield 81, 3) := by decide +kernel
theorem dX5_deal_157 : decode cX5_deal 157 = .ok (.iload 9, 2) := by decide +kernel
theorem dX5_deal_159 : decode cX5_deal 159 = .ok (.ireturn, 1) := by decide +kernel
set_option maxRecDepth 20000 in
theorem ggX5_draw_X5_dealNumbered : GoodIn wsX5_draw wsX5_dealNumbered := goodIn_ca (goodIn_r _ [6, 7, 8, 9, 10, 11, 5, 12, 78, 79, 80, 81, 82] (by decide +kernel) (by decide +kernel)) (goodIn_sub (fun _ h => List.mem_cons_of_mem _ (List.mem_append_left _ (List.mem_append_right _ h))) (by decide +kernel))
set_option maxRecDepth 20000 in
theorem gX5_draw_X5_dealNumbered : GoodIn wsX5_draw (wsV RX5 99 RX5 yX5_dealNumbered wsX5_dealNumbered) := goodIn_app (goodIn_of _ (by decide +kernel)) ggX5_draw_X5_dealNumbered
set_option maxRecDepth 20000 in
theorem ggX5_draw_X5_requireRange : GoodIn wsX5_draw wsX5_requireRange := goodIn_ca (goodIn_r _ [15, 16, 17] (by decide +kernel) (by decide +kernel)) (goodIn_sub (fun _ h => List.mem_cons_of_mem _ (List.mem_append_right _ h)) (by decide +kernel))
set_option maxRecDepth 20000 in
theorem gX5_draw_X5_requireRange : GoodIn wsX5_draw (va_wsS RX5 43 yX5_requireRange wsX5_requireRange) := goodIn_app (goodIn_of _ (by decide +kernel)) ggX5_draw_X5_requireRange
set_option maxRecDepth 20000 in
theorem ggX5_draw_X4_drawingRate : GoodIn wsX5_draw wsX4_drawingRate := goodIn_r _ [22, 23, 24, 25, 26, 27, 28, 29, 30, 31, 32, 33, 34, 35, 71, 72, 73, 74, 75, 76, 77, 85, 86, 87] (by decide +kernel) (by decide +kernel)
set_option maxRecDepth 20000 in
theorem gX5_draw_X4_drawingRate : GoodIn wsX5_draw (wsV RX5 106 RX4 yX4_drawingRate wsX4_drawingRate) := goodIn_app (goodIn_of _ (by decide +kernel)) ggX5_draw_X4_drawingRate
set_option maxRecDepth 20000 in
theorem ggX5_draw_X5_homeAmount : GoodIn wsX5_draw wsX5_homeAmount := goodIn_r _ [38, 39] (by decide +kernel) (by decide +kernel)
set_option maxRecDepth 20000 in
theorem gX5_draw_X5_homeAmount : GoodIn wsX5_draw (va_wsS RX5 109 yX5_homeAmount wsX5_homeAmount) := goodIn_app (goodIn_of _ (by decide +kernel)) ggX5_draw_X5_homeAmount
set_option maxRecDepth 20000 in
theorem ggX5_draw_X1_nextBusinessDay : GoodIn wsX5_draw wsX1_nextBusinessDay := goodIn_r _ [44, 45, 46, 47, 48, 43, 49, 50, 11, 5, 12, 83, 84] (by decide +kernel) (by decide +kernel)
set_option maxRecDepth 20000 in
theorem gX5_draw_X1_nextBusinessDay : GoodIn wsX5_draw (wsV RX5 113 RX1 yX1_nextBusinessDay wsX1_nextBusinessDay) := goodIn_app (goodIn_of _ (by decide +kernel)) ggX5_draw_X1_nextBusinessDay
set_option maxRecDepth 20000 in
theorem ggX5_draw_X3_book : GoodIn wsX5_draw wsX3_book := goodIn_r _ [55, 56, 57, 58, 59, 11, 5, 12, 60, 61, 62, 63, 64, 65, 66, 67, 68, 69, 70, 88, 89, 90, 91] (by decide +kernel) (by decide +kernel)
set_option maxRecDepth 20000 in
theorem gX5_draw_X3_book : GoodIn wsX5_draw (wsV RX5 132 RX3 yX3_book wsX3_book) := goodIn_app (goodIn_of _ (by decide +kernel)) ggX5_draw_X3_book
theorem dX5_draw_0 : decode cX5_draw 0 = .ok (.aload_n 0, 1) := by decide +kernel
theorem dX5_draw_1 : decode cX5_draw 1 = .ok (.iload_n 1, 1) := by decide +kernel
theorem dX5_draw_2 : decode cX5_draw 2 = .ok (.invokevirtual 99, 3) := by decide +kernel
theorem dX5_draw_5 : decode cX5_draw 5 = .ok (.astore_n 3, 1) := by decide +kernel
theorem dX5_draw_6 : decode cX5_draw 6 = .ok (.iload_n 2, 1) := by decide +kernel
theorem dX5_draw_7 : decode cX5_draw 7 = .ok (.iconst 1, 1) := by decide +kernel
theorem dX5_draw_8 : decode cX5_draw 8 = .ok (.aload_n 3, 1) := by decide +kernel
theorem dX5_draw_9 : decode cX5_draw 9 = .ok (.getfield 103, 3) := by decide +kernel
theorem dX5_draw_12 : decode cX5_draw 12 = .ok (.invokestatic 43, 3) := by decide +kernel
theorem dX5_draw_15 : decode cX5_draw 15 = .ok (.aload_n 3, 1) := by decide +kernel
theorem dX5_draw_16 : decode cX5_draw 16 = .ok (.aload_n 0, 1) := by decide +kernel
theorem dX5_draw_17 : decode cX5_draw 17 = .ok (.getfield 12, 3) := by decide +kernel
theorem dX5_draw_20 : decode cX5_draw 20 = .ok (.getfield 54, 3) := by decide +kernel
theorem dX5_draw_23 : decode cX5_draw 23 = .ok (.invokevirtual 106, 3) := by decide +kernel
theorem dX5_draw_26 : decode cX5_draw 26 = .ok (.istore 4, 2) := by decide +kernel
theorem dX5_draw_28 : decode cX5_draw 28 = .ok (.iload_n 2, 1) := by decide +kernel
theorem dX5_draw_29 : decode cX5_draw 29 = .ok (.iload 4, 2) := by decide +kernel
theorem dX5_draw_31 : decode cX5_draw 31 = .ok (.invokestatic 109, 3) := by decide +kernel
theorem dX5_draw_34 : decode cX5_draw 34 = .ok (.lstore 5, 2) := by decide +kernel
theorem dX5_draw_36 : decode cX5_draw 36 = .ok (.aload_n 0, 1) := by decide +kernel
theorem dX5_draw_37 : decode cX5_draw 37 = .ok (.getfield 12, 3) := by decide +kernel
theorem dX5_draw_40 : decode cX5_draw 40 = .ok (.invokevirtual 113, 3) := by decide +kernel
theorem dX5_draw_43 : decode cX5_draw 43 = .ok (.istore 7, 2) := by decide +kernel
theorem dX5_draw_45 : decode cX5_draw 45 = .ok (.aload_n 3, 1) := by decide +kernel
theorem dX5_draw_46 : decode cX5_draw 46 = .ok (.getfield 117, 3) := by decide +kernel
theorem dX5_draw_49 : decode cX5_draw 49 = .ok (.aload_n 3, 1) := by decide +kernel
theorem dX5_draw_50 : decode cX5_draw 50 = .ok (.getfield 121, 3) := by decide +kernel
theorem dX5_draw_53 : decode cX5_draw 53 = .ok (.getfield 125, 3) := by decide +kernel
theorem dX5_draw_56 : decode cX5_draw 56 = .ok (.iload 7, 2) := by decide +kernel
theorem dX5_draw_58 : decode cX5_draw 58 = .ok (.aload_n 3, 1) := by decide +kernel
theorem dX5_draw_59 : decode cX5_draw 59 = .ok (.getfield 128, 3) := by decide +kernel
theorem dX5_draw_62 : decode cX5_draw 62 = .ok (.ifCond .eq 8, 3) := by decide +kernel
theorem dX5_draw_65 : decode cX5_draw 65 = .ok (.iload_n 2, 1) := by decide +kernel
theorem dX5_draw_66 : decode cX5_draw 66 = .ok (.i2l, 1) := by decide +kernel
theorem dX5_draw_67 : decode cX5_draw 67 = .ok (.goto 6, 3) := by decide +kernel
theorem dX5_draw_70 : decode cX5_draw 70 = .ok (.iload_n 2, 1) := by decide +kernel
theorem dX5_draw_71 : decode cX5_draw 71 = .ok (.ineg, 1) := by decide +kernel
theorem dX5_draw_72 : decode cX5_draw 72 = .ok (.i2l, 1) := by decide +kernel
theorem dX5_draw_73 : decode cX5_draw 73 = .ok (.invokevirtual 132, 3) := by decide +kernel
theorem dX5_draw_76 : decode cX5_draw 76 = .ok (.aload_n 3, 1) := by decide +kernel
theorem dX5_draw_77 : decode cX5_draw 77 = .ok (.getfield 117, 3) := by decide +kernel
theorem dX5_draw_80 : decode cX5_draw 80 = .ok (.iconst 4, 1) := by decide +kernel
theorem dX5_draw_81 : decode cX5_draw 81 = .ok (.iload 7, 2) := by decide +kernel
theorem dX5_draw_83 : decode cX5_draw 83 = .ok (.aload_n 3, 1) := by decide +kernel
theorem dX5_draw_84 : decode cX5_draw 84 = .ok (.getfield 128, 3) := by decide +kernel
theorem dX5_draw_87 : decode cX5_draw 87 = .ok (.ifCond .eq 9, 3) := by decide +kernel
theorem dX5_draw_90 : decode cX5_draw 90 = .ok (.lload 5, 2) := by decide +kernel
theorem dX5_draw_92 : decode cX5_draw 92 = .ok (.lneg, 1) := by decide +kernel
theorem dX5_draw_93 : decode cX5_draw 93 = .ok (.goto 5, 3) := by decide +kernel
theorem dX5_draw_96 : decode cX5_draw 96 = .ok (.lload 5, 2) := by decide +kernel
theorem dX5_draw_98 : decode cX5_draw 98 = .ok (.invokevirtual 132, 3) := by decide +kernel
theorem dX5_draw_101 : decode cX5_draw 101 = .ok (.aload_n 3, 1) := by decide +kernel
theorem dX5_draw_102 : decode cX5_draw 102 = .ok (.dup, 1) := by decide +kernel
theorem dX5_draw_103 : decode cX5_draw 103 = .ok (.getfield 103, 3) := by decide +kernel
theorem dX5_draw_106 : decode cX5_draw 106 = .ok (.iload_n 2, 1) := by decide +kernel
theorem dX5_draw_107 : decode cX5_draw 107 = .ok (.isub, 1) := by decide +kernel
theorem dX5_draw_108 : decode cX5_draw 108 = .ok (.putfield 103, 3) := by decide +kernel
theorem dX5_draw_111 : decode cX5_draw 111 = .ok (.iload 4, 2) := by decide +kernel
theorem dX5_draw_113 : decode cX5_draw 113 = .ok (.ireturn, 1) := by decide +kernel
set_option maxRecDepth 20000 in
theorem ggX5_roll_X5_dealNumbered : GoodIn wsX5_roll wsX5_dealNumbered := goodIn_ca (goodIn_r _ [8, 9, 10, 11, 12, 13, 7, 14, 108, 109, 110, 111, 112] (by decide +kernel) (by decide +kernel)) (goodIn_sub (fun _ h => List.mem_cons_of_mem _ (List.mem_append_left _ (List.mem_append_right _ h))) (by decide +kernel))
set_option maxRecDepth 20000 in
theorem gX5_roll_X5_dealNumbered : GoodIn wsX5_roll (wsV RX5 99 RX5 yX5_dealNumbered wsX5_dealNumbered) := goodIn_app (goodIn_of _ (by decide +kernel)) ggX5_roll_X5_dealNumbered
set_option maxRecDepth 20000 in
theorem ggX5_roll_X5_requireRange : GoodIn wsX5_roll wsX5_requireRange := goodIn_ca (goodIn_r _ [17, 18, 19] (by decide +kernel) (by decide +kernel)) (goodIn_sub (fun _ h => List.mem_cons_of_mem _ (List.mem_append_right _ h)) (by decide +kernel))
set_option maxRecDepth 20000 in
theorem gX5_roll_X5_requireRange : GoodIn wsX5_roll (va_wsS RX5 43 yX5_requireRange wsX5_requireRange) := goodIn_app (goodIn_of _ (by decide +kernel)) ggX5_roll_X5_requireRange
set_option maxRecDepth 20000 in
theorem ggX5_roll_X5_requireLeft : GoodIn wsX5_roll wsX5_requireLeft := goodIn_ca (goodIn_r _ [22, 1, 2, 101, 102, 103, 104, 105, 106, 107] (by decide +kernel) (by decide +kernel)) (goodIn_sub (fun _ h => List.mem_cons_of_mem _ (List.mem_append_left _ (List.mem_append_left _ (List.mem_append_right _ h)))) (by decide +kernel))
set_option maxRecDepth 20000 in
theorem gX5_roll_X5_requireLeft : GoodIn wsX5_roll (va_wsS RX5 136 yX5_requireLeft wsX5_requireLeft) := goodIn_app (goodIn_of _ (by decide +kernel)) ggX5_roll_X5_requireLeft
set_option maxRecDepth 20000 in
theorem ggX5_roll_X5_bookGain : GoodIn wsX5_roll wsX5_bookGain := goodIn_r _ [26, 3, 27, 28, 29, 30, 31, 32, 33, 34, 35, 36, 37, 38, 39, 40, 41, 42, 43, 44, 45, 46, 47, 48, 49, 50, 51, 52, 53, 54, 55, 56, 57, 58, 59, 60, 7, 61, 62, 63, 64, 65, 66, 67, 68, 69, 70, 71, 72, 73, 13, 14, 74, 75, 76, 77, 78, 79, 80, 81, 82, 83, 84, 85, 86, 87, 88, 89, 90, 91, 92, 93, 108, 109, 110, 111, 112, 113, 114, 101, 102, 103, 104, 105, 106, 107, 115, 116, 117, 118, 119, 120, 121] (by decide +kernel) (by decide +kernel)
set_option maxRecDepth 20000 in
theorem gX5_roll_X5_bookGain : GoodIn wsX5_roll (wsV RX5 145 RX5 yX5_bookGain wsX5_bookGain) := goodIn_app (goodIn_of _ (by decide +kernel)) ggX5_roll_X5_bookGain
set_option maxRecDepth 20000 in
theorem ggX5_roll_X4_moveWindow : GoodIn wsX5_roll wsX4_moveWindow := goodIn_r _ [97, 37, 98, 101, 102, 103, 104, 105, 106, 107] (by decide +kernel) (by decide +kernel)
set_option maxRecDepth 20000 in
theorem gX5_roll_X4_moveWindow : GoodIn wsX5_roll (wsV RX5 149 RX4 yX4_moveWindow wsX4_moveWindow) := goodIn_app (goodIn_of _ (by decide +kernel)) ggX5_roll_X4_moveWindow
set_option maxRecDepth 20000 in
theorem ggX5_roll_X4_marketRate : GoodIn wsX5_roll wsX4_marketRate := goodIn_r _ [35, 36, 37, 38, 39, 40, 41, 42, 43, 44, 45, 46, 47, 48, 49, 50, 51, 52, 101, 102, 103, 104, 105, 106, 107, 115, 116, 117] (by decide +kernel) (by decide +kernel)
set_option maxRecDepth 20000 in
theorem gX5_roll_X4_marketRate : GoodIn wsX5_roll (wsV RX5 152 RX4 yX4_marketRate wsX4_marketRate) := goodIn_app (goodIn_of _ (by decide +kernel)) ggX5_roll_X4_marketRate
set_option maxRecDepth 20000 in
theorem ggX5_roll_X2_laterRate : GoodIn wsX5_roll wsX2_laterRate := goodIn_r _ [47, 48, 49, 50, 51, 52, 115, 116, 117] (by decide +kernel) (by decide +kernel)
set_option maxRecDepth 20000 in
theorem gX5_roll_X2_laterRate : GoodIn wsX5_roll (wsV RX5 158 RX2 yX2_laterRate wsX2_laterRate) := goodIn_app (goodIn_of _ (by decide +kernel)) ggX5_roll_X2_laterRate
theorem dX5_roll_0 : decode cX5_roll 0 = .ok (.aload_n 0, 1) := by decide +kernel
theorem dX5_roll_1 : decode cX5_roll 1 = .ok (.iload_n 1, 1) := by decide +kernel
theorem dX5_roll_2 : decode cX5_roll 2 = .ok (.invokevirtual 99, 3) := by decide +kernel
theorem dX5_roll_5 : decode cX5_roll 5 = .ok (.astore 4, 2) := by decide +kernel
theorem dX5_roll_7 : decode cX5_roll 7 = .ok (.iload_n 2, 1) := by decide +kernel
theorem dX5_roll_8 : decode cX5_roll 8 = .ok (.iconst 1, 1) := by decide +kernel
theorem dX5_roll_9 : decode cX5_roll 9 = .ok (.bipush 100, 2) := by decide +kernel
theorem dX5_roll_11 : decode cX5_roll 11 = .ok (.invokestatic 43, 3) := by decide +kernel
theorem dX5_roll_14 : decode cX5_roll 14 = .ok (.aload 4, 2) := by decide +kernel
theorem dX5_roll_16 : decode cX5_roll 16 = .ok (.invokestatic 136, 3) := by decide +kernel
theorem dX5_roll_19 : decode cX5_roll 19 = .ok (.aload 4, 2) := by decide +kernel
theorem dX5_roll_21 : decode cX5_roll 21 = .ok (.getfield 140, 3) := by decide +kernel
theorem dX5_roll_24 : decode cX5_roll 24 = .ok (.iload_n 2, 1) := by decide +kernel
theorem dX5_roll_25 : decode cX5_roll 25 = .ok (.iadd, 1) := by decide +kernel
theorem dX5_roll_26 : decode cX5_roll 26 = .ok (.aload_n 0, 1) := by decide +kernel
theorem dX5_roll_27 : decode cX5_roll 27 = .ok (.getfield 12, 3) := by decide +kernel
theorem dX5_roll_30 : decode cX5_roll 30 = .ok (.getfield 54, 3) := by decide +kernel
theorem dX5_roll_33 : decode cX5_roll 33 = .ok (.isub, 1) := by decide +kernel
theorem dX5_roll_34 : decode cX5_roll 34 = .ok (.sipush 400, 3) := by decide +kernel
theorem dX5_roll_37 : decode cX5_roll 37 = .ok (.if_icmp .le 13, 3) := by decide +kernel
theorem dX5_roll_40 : decode cX5_roll 40 = .ok (.new 57, 3) := by decide +kernel
theorem dX5_roll_43 : decode cX5_roll 43 = .ok (.dup, 1) := by decide +kernel
theorem dX5_roll_44 : decode cX5_roll 44 = .ok (.ldc 143, 2) := by decide +kernel
theorem dX5_roll_46 : decode cX5_roll 46 = .ok (.invokespecial 61, 3) := by decide +kernel
theorem dX5_roll_49 : decode cX5_roll 49 = .ok (.athrow, 1) := by decide +kernel
theorem dX5_roll_50 : decode cX5_roll 50 = .ok (.iload_n 3, 1) := by decide +kernel
theorem dX5_roll_51 : decode cX5_roll 51 = .ok (.ifCond .eq 36, 3) := by decide +kernel
theorem dX5_roll_54 : decode cX5_roll 54 = .ok (.aload_n 0, 1) := by decide +kernel
theorem dX5_roll_55 : decode cX5_roll 55 = .ok (.aload 4, 2) := by decide +kernel
theorem dX5_roll_57 : decode cX5_roll 57 = .ok (.invokevirtual 145, 3) := by decide +kernel
theorem dX5_roll_60 : decode cX5_roll 60 = .ok (.pop2, 1) := by decide +kernel
theorem dX5_roll_61 : decode cX5_roll 61 = .ok (.aload 4, 2) := by decide +kernel
theorem dX5_roll_63 : decode cX5_roll 63 = .ok (.iload_n 2, 1) := by decide +kernel
theorem dX5_roll_64 : decode cX5_roll 64 = .ok (.invokevirtual 149, 3) := by decide +kernel
theorem dX5_roll_67 : decode cX5_roll 67 = .ok (.aload 4, 2) := by decide +kernel
theorem dX5_roll_69 : decode cX5_roll 69 = .ok (.aload 4, 2) := by decide +kernel
theorem dX5_roll_71 : decode cX5_roll 71 = .ok (.aload_n 0, 1) := by decide +kernel
theorem dX5_roll_72 : decode cX5_roll 72 = .ok (.getfield 12, 3) := by decide +kernel
theorem dX5_roll_75 : decode cX5_roll 75 = .ok (.getfield 54, 3) := by decide +kernel
theorem dX5_roll_78 : decode cX5_roll 78 = .ok (.invokevirtual 152, 3) := by decide +kernel
theorem dX5_roll_81 : decode cX5_roll 81 = .ok (.putfield 155, 3) := by decide +kernel
theorem dX5_roll_84 : decode cX5_roll 84 = .ok (.goto 28, 3) := by decide +kernel
theorem dX5_roll_87 : decode cX5_roll 87 = .ok (.aload 4, 2) := by decide +kernel
theorem dX5_roll_89 : decode cX5_roll 89 = .ok (.iload_n 2, 1) := by decide +kernel
theorem dX5_roll_90 : decode cX5_roll 90 = .ok (.invokevirtual 149, 3) := by decide +kernel
theorem dX5_roll_93 : decode cX5_roll 93 = .ok (.aload 4, 2) := by decide +kernel
theorem dX5_roll_95 : decode cX5_roll 95 = .ok (.aload 4, 2) := by decide +kernel
theorem dX5_roll_97 : decode cX5_roll 97 = .ok (.getfield 121, 3) := by decide +kernel
theorem dX5_roll_100 : decode cX5_roll 100 = .ok (.aload 4, 2) := by decide +kernel
theorem dX5_roll_102 : decode cX5_roll 102 = .ok (.getfield 155, 3) := by decide +kernel
theorem dX5_roll_105 : decode cX5_roll 105 = .ok (.iload_n 2, 1) := by decide +kernel
theorem dX5_roll_106 : decode cX5_roll 106 = .ok (.invokevirtual 158, 3) := by decide +kernel
theorem dX5_roll_109 : decode cX5_roll 109 = .ok (.putfield 155, 3) := by decide +kernel
theorem dX5_roll_112 : decode cX5_roll 112 = .ok (.aload 4, 2) := by decide +kernel
theorem dX5_roll_114 : decode cX5_roll 114 = .ok (.getfield 155, 3) := by decide +kernel
theorem dX5_roll_117 : decode cX5_roll 117 = .ok (.ireturn, 1) := by decide +kernel
set_option maxRecDepth 20000 in
theorem ggX5_closeOut_X5_dealNumbered : GoodIn wsX5_closeOut wsX5_dealNumbered := goodIn_ca (goodIn_r _ [5, 6, 7, 8, 9, 10, 4, 11, 93, 94, 95, 96, 97] (by decide +kernel) (by decide +kernel)) (goodIn_sub (fun _ h => List.mem_cons_of_mem _ (List.mem_append_left _ (List.mem_append_right _ h))) (by decide +kernel))
set_option maxRecDepth 20000 in
theorem gX5_closeOut_X5_dealNumbered : GoodIn wsX5_closeOut (wsV RX5 99 RX5 yX5_dealNumbered wsX5_dealNumbered) := goodIn_app (goodIn_of _ (by decide +kernel)) ggX5_closeOut_X5_dealNumbered
set_option maxRecDepth 20000 in
theorem ggX5_closeOut_X5_requireLeft : GoodIn wsX5_closeOut wsX5_requireLeft := goodIn_ca (goodIn_r _ [14, 15, 16, 98, 99, 100, 101, 102, 103, 104] (by decide +kernel) (by decide +kernel)) (goodIn_sub (fun _ h => List.mem_cons_of_mem _ (List.mem_append_right _ h)) (by decide +kernel))
set_option maxRecDepth 20000 in
theorem gX5_closeOut_X5_requireLeft : GoodIn wsX5_closeOut (va_wsS RX5 136 yX5_requireLeft wsX5_requireLeft) := goodIn_app (goodIn_of _ (by decide +kernel)) ggX5_closeOut_X5_requireLeft
set_option maxRecDepth 20000 in
theorem ggX5_closeOut_X5_endDeal : GoodIn wsX5_closeOut wsX5_endDeal := goodIn_r _ [20, 21, 22, 23, 4, 24, 25, 26, 27, 28, 29, 30, 31, 32, 33, 34, 35, 36, 37, 38, 39, 40, 41, 42, 43, 44, 45, 46, 47, 48, 49, 50, 51, 52, 53, 54, 55, 56, 57, 58, 59, 60, 61, 62, 63, 64, 65, 66, 67, 68, 69, 70, 71, 72, 10, 11, 73, 74, 75, 76, 77, 78, 79, 80, 81, 82, 83, 84, 85, 86, 87, 88, 89, 90, 91, 92, 98, 99, 100, 101, 102, 103, 104, 93, 94, 95, 96, 97, 105, 106, 107, 108, 109, 110, 111, 112, 113] (by decide +kernel) (by decide +kernel)
set_option maxRecDepth 20000 in
theorem gX5_closeOut_X5_endDeal : GoodIn wsX5_closeOut (wsV RX5 162 RX5 yX5_endDeal wsX5_endDeal) := goodIn_app (goodIn_of _ (by decide +kernel)) ggX5_closeOut_X5_endDeal
theorem dX5_closeOut_0 : decode cX5_closeOut 0 = .ok (.aload_n 0, 1) := by decide +kernel
theorem dX5_closeOut_1 : decode cX5_closeOut 1 = .ok (.iload_n 1, 1) := by decide +kernel
theorem dX5_closeOut_2 : decode cX5_closeOut 2 = .ok (.invokevirtual 99, 3) := by decide +kernel
theorem dX5_closeOut_5 : decode cX5_closeOut 5 = .ok (.astore_n 2, 1) := by decide +kernel
theorem dX5_closeOut_6 : decode cX5_closeOut 6 = .ok (.aload_n 2, 1) := by decide +kernel
theorem dX5_closeOut_7 : decode cX5_closeOut 7 = .ok (.invokestatic 136, 3) := by decide +kernel
theorem dX5_closeOut_10 : decode cX5_closeOut 10 = .ok (.aload_n 0, 1) := by decide +kernel
theorem dX5_closeOut_11 : decode cX5_closeOut 11 = .ok (.aload_n 2, 1) := by decide +kernel
theorem dX5_closeOut_12 : decode cX5_closeOut 12 = .ok (.invokevirtual 162, 3) := by decide +kernel
theorem dX5_closeOut_15 : decode cX5_closeOut 15 = .ok (.lreturn, 1) := by decide +kernel
set_option maxRecDepth 20000 in
theorem ggX5_left_X5_dealNumbered : GoodIn wsX5_left wsX5_dealNumbered := goodIn_ca (goodIn_r _ [5, 6, 7, 8, 9, 10, 4, 11, 19, 20, 21, 22, 23] (by decide +kernel) (by decide +kernel)) (goodIn_sub (fun _ h => List.mem_cons_of_mem _ (List.mem_append_right _ h)) (by decide +kernel))
set_option maxRecDepth 20000 in
theorem gX5_left_X5_dealNumbered : GoodIn wsX5_left (wsV RX5 99 RX5 yX5_dealNumbered wsX5_dealNumbered) := goodIn_app (goodIn_of _ (by decide +kernel)) ggX5_left_X5_dealNumbered
theorem dX5_left_0 : decode cX5_left 0 = .ok (.aload_n 0, 1) := by decide +kernel
theorem dX5_left_1 : decode cX5_left 1 = .ok (.iload_n 1, 1) := by decide +kernel
theorem dX5_left_2 : decode cX5_left 2 = .ok (.invokevirtual 99, 3) := by decide +kernel
theorem dX5_left_5 : decode cX5_left 5 = .ok (.getfield 103, 3) := by decide +kernel
theorem dX5_left_8 : decode cX5_left 8 = .ok (.ireturn, 1) := by decide +kernel
set_option maxRecDepth 20000 in
theorem ggX5_rate_X5_dealNumbered : GoodIn wsX5_rate wsX5_dealNumbered := goodIn_ca (goodIn_r _ [5, 6, 7, 8, 9, 10, 4, 11, 19, 20, 21, 22, 23] (by decide +kernel) (by decide +kernel)) (goodIn_sub (fun _ h => List.mem_cons_of_mem _ (List.mem_append_right _ h)) (by decide +kernel))
set_option maxRecDepth 20000 in
theorem gX5_rate_X5_dealNumbered : GoodIn wsX5_rate (wsV RX5 99 RX5 yX5_dealNumbered wsX5_dealNumbered) := goodIn_app (goodIn_of _ (by decide +kernel)) ggX5_rate_X5_dealNumbered
theorem dX5_rate_0 : decode cX5_rate 0 = .ok (.aload_n 0, 1) := by decide +kernel
theorem dX5_rate_1 : decode cX5_rate 1 = .ok (.iload_n 1, 1) := by decide +kernel
theorem dX5_rate_2 : decode cX5_rate 2 = .ok (.invokevirtual 99, 3) := by decide +kernel
theorem dX5_rate_5 : decode cX5_rate 5 = .ok (.getfield 155, 3) := by decide +kernel
theorem dX5_rate_8 : decode cX5_rate 8 = .ok (.ireturn, 1) := by decide +kernel
set_option maxRecDepth 20000 in
theorem ggX5_window_X5_dealNumbered : GoodIn wsX5_window wsX5_dealNumbered := goodIn_ca (goodIn_r _ [5, 6, 7, 8, 9, 10, 4, 11, 19, 20, 21, 22, 23] (by decide +kernel) (by decide +kernel)) (goodIn_sub (fun _ h => List.mem_cons_of_mem _ (List.mem_append_right _ h)) (by decide +kernel))
set_option maxRecDepth 20000 in
theorem gX5_window_X5_dealNumbered : GoodIn wsX5_window (wsV RX5 99 RX5 yX5_dealNumbered wsX5_dealNumbered) := goodIn_app (goodIn_of _ (by decide +kernel)) ggX5_window_X5_dealNumbered
theorem dX5_window_0 : decode cX5_window 0 = .ok (.aload_n 0, 1) := by decide +kernel
theorem dX5_window_1 : decode cX5_window 1 = .ok (.iload_n 1, 1) := by decide +kernel
theorem dX5_window_2 : decode cX5_window 2 = .ok (.invokevirtual 99, 3) := by decide +kernel
theorem dX5_window_5 : decode cX5_window 5 = .ok (.astore_n 2, 1) := by decide +kernel
theorem dX5_window_6 : decode cX5_window 6 = .ok (.sipush 10000, 3) := by decide +kernel
theorem dX5_window_9 : decode cX5_window 9 = .ok (.aload_n 2, 1) := by decide +kernel
theorem dX5_window_10 : decode cX5_window 10 = .ok (.getfield 165, 3) := by decide +kernel
theorem dX5_window_13 : decode cX5_window 13 = .ok (.imul, 1) := by decide +kernel
theorem dX5_window_14 : decode cX5_window 14 = .ok (.aload_n 2, 1) := by decide +kernel
theorem dX5_window_15 : decode cX5_window 15 = .ok (.getfield 140, 3) := by decide +kernel
theorem dX5_window_18 : decode cX5_window 18 = .ok (.iadd, 1) := by decide +kernel
theorem dX5_window_19 : decode cX5_window 19 = .ok (.ireturn, 1) := by decide +kernel
set_option maxRecDepth 20000 in
theorem ggX5_gain_X5_dealNumbered : GoodIn wsX5_gain wsX5_dealNumbered := goodIn_ca (goodIn_r _ [6, 7, 8, 9, 10, 11, 5, 12, 49, 50, 51, 52, 53] (by decide +kernel) (by decide +kernel)) (goodIn_sub (fun _ h => List.mem_cons_of_mem _ (List.mem_append_right _ h)) (by decide +kernel))
set_option maxRecDepth 20000 in
theorem gX5_gain_X5_dealNumbered : GoodIn wsX5_gain (wsV RX5 99 RX5 yX5_dealNumbered wsX5_dealNumbered) := goodIn_app (goodIn_of _ (by decide +kernel)) ggX5_gain_X5_dealNumbered
set_option maxRecDepth 20000 in
theorem ggX5_gain_X4_marketGain : GoodIn wsX5_gain wsX4_marketGain := goodIn_r _ [17, 18, 19, 20, 16, 21, 22, 23, 24, 25, 26, 27, 28, 29, 30, 31, 32, 33, 34, 35, 36, 37, 38, 39, 40, 41, 42, 43, 44, 45, 46, 5, 47, 48, 56, 57, 58, 59, 60, 61, 62, 63, 64, 65] (by decide +kernel) (by decide +kernel)
set_option maxRecDepth 20000 in
theorem gX5_gain_X4_marketGain : GoodIn wsX5_gain (wsV RX5 168 RX4 yX4_marketGain wsX4_marketGain) := goodIn_app (goodIn_of _ (by decide +kernel)) ggX5_gain_X4_marketGain
theorem dX5_gain_0 : decode cX5_gain 0 = .ok (.aload_n 0, 1) := by decide +kernel
theorem dX5_gain_1 : decode cX5_gain 1 = .ok (.iload_n 1, 1) := by decide +kernel
theorem dX5_gain_2 : decode cX5_gain 2 = .ok (.invokevirtual 99, 3) := by decide +kernel
theorem dX5_gain_5 : decode cX5_gain 5 = .ok (.aload_n 0, 1) := by decide +kernel
theorem dX5_gain_6 : decode cX5_gain 6 = .ok (.getfield 12, 3) := by decide +kernel
theorem dX5_gain_9 : decode cX5_gain 9 = .ok (.getfield 54, 3) := by decide +kernel
theorem dX5_gain_12 : decode cX5_gain 12 = .ok (.invokevirtual 168, 3) := by decide +kernel
theorem dX5_gain_15 : decode cX5_gain 15 = .ok (.lreturn, 1) := by decide +kernel
set_option maxRecDepth 20000 in
theorem ggX5_exposure_X5_customerNumbered : GoodIn wsX5_exposure wsX5_customerNumbered := goodIn_ca (goodIn_r _ [5, 6, 7, 8, 9, 10, 4, 11, 61, 62, 63, 64, 65] (by decide +kernel) (by decide +kernel)) (goodIn_sub (fun _ h => List.mem_cons_of_mem _ (List.mem_append_right _ h)) (by decide +kernel))
set_option maxRecDepth 20000 in
theorem gX5_exposure_X5_customerNumbered : GoodIn wsX5_exposure (wsV RX5 68 RX5 yX5_customerNumbered wsX5_customerNumbered) := goodIn_app (goodIn_of _ (by decide +kernel)) ggX5_exposure_X5_customerNumbered
set_option maxRecDepth 20000 in
theorem ggX5_exposure_X5_lossOfAll : GoodIn wsX5_exposure wsX5_lossOfAll := goodIn_r _ [15, 16, 17, 18, 19, 20, 21, 22, 23, 24, 25, 26, 27, 28, 29, 30, 31, 32, 33, 34, 35, 36, 37, 38, 39, 40, 41, 42, 43, 44, 45, 46, 47, 48, 49, 50, 51, 52, 4, 53, 54, 61, 62, 63, 64, 65, 66, 67, 68, 69, 70, 71, 72, 73, 74, 75, 76, 77] (by decide +kernel) (by decide +kernel)
set_option maxRecDepth 20000 in
theorem gX5_exposure_X5_lossOfAll : GoodIn wsX5_exposure (wsV RX5 172 RX5 yX5_lossOfAll wsX5_lossOfAll) := goodIn_app (goodIn_of _ (by decide +kernel)) ggX5_exposure_X5_lossOfAll
set_option maxRecDepth 20000 in
theorem ggX5_exposure_X5_worseLoss : GoodIn wsX5_exposure wsX5_worseLoss := goodIn_r _ [57, 58, 59, 25, 60] (by decide +kernel) (by decide +kernel)
set_option maxRecDepth 20000 in
theorem gX5_exposure_X5_worseLoss : GoodIn wsX5_exposure (va_wsS RX5 176 yX5_worseLoss wsX5_worseLoss) := goodIn_app (goodIn_of _ (by decide +kernel)) ggX5_exposure_X5_worseLoss
theorem dX5_exposure_0 : decode cX5_exposure 0 = .ok (.aload_n 0, 1) := by decide +kernel
theorem dX5_exposure_1 : decode cX5_exposure 1 = .ok (.iload_n 1, 1) := by decide +kernel
theorem dX5_exposure_2 : decode cX5_exposure 2 = .ok (.invokevirtual 68, 3) := by decide +kernel
theorem dX5_exposure_5 : decode cX5_exposure 5 = .ok (.astore_n 2, 1) := by decide +kernel
theorem dX5_exposure_6 : decode cX5_exposure 6 = .ok (.aload_n 0, 1) := by decide +kernel
theorem dX5_exposure_7 : decode cX5_exposure 7 = .ok (.aload_n 2, 1) := by decide +kernel
theorem dX5_exposure_8 : decode cX5_exposure 8 = .ok (.bipush 10, 2) := by decide +kernel
theorem dX5_exposure_10 : decode cX5_exposure 10 = .ok (.invokevirtual 172, 3) := by decide +kernel
theorem dX5_exposure_13 : decode cX5_exposure 13 = .ok (.aload_n 0, 1) := by decide +kernel
theorem dX5_exposure_14 : decode cX5_exposure 14 = .ok (.aload_n 2, 1) := by decide +kernel
theorem dX5_exposure_15 : decode cX5_exposure 15 = .ok (.bipush (-10), 2) := by decide +kernel
theorem dX5_exposure_17 : decode cX5_exposure 17 = .ok (.invokevirtual 172, 3) := by decide +kernel
theorem dX5_exposure_20 : decode cX5_exposure 20 = .ok (.invokestatic 176, 3) := by decide +kernel
theorem dX5_exposure_23 : decode cX5_exposure 23 = .ok (.lreturn, 1) := by decide +kernel
set_option maxRecDepth 20000 in
theorem ggX5_settlementDay_X1_nextBusinessDay : GoodIn wsX5_settlementDay wsX1_nextBusinessDay := goodIn_r _ [6, 7, 8, 9, 10, 5, 11, 12, 13, 14, 15, 21, 22] (by decide +kernel) (by decide +kernel)
set_option maxRecDepth 20000 in
theorem gX5_settlementDay_X1_nextBusinessDay : GoodIn wsX5_settlementDay (wsV RX5 113 RX1 yX1_nextBusinessDay wsX1_nextBusinessDay) := goodIn_app (goodIn_of _ (by decide +kernel)) ggX5_settlementDay_X1_nextBusinessDay
theorem dX5_settlementDay_0 : decode cX5_settlementDay 0 = .ok (.aload_n 0, 1) := by decide +kernel
theorem dX5_settlementDay_1 : decode cX5_settlementDay 1 = .ok (.getfield 12, 3) := by decide +kernel
theorem dX5_settlementDay_4 : decode cX5_settlementDay 4 = .ok (.invokevirtual 113, 3) := by decide +kernel
theorem dX5_settlementDay_7 : decode cX5_settlementDay 7 = .ok (.ireturn, 1) := by decide +kernel
set_option maxRecDepth 20000 in
theorem ggX5_due_X5_customerNumbered : GoodIn wsX5_due wsX5_customerNumbered := goodIn_ca (goodIn_r _ [6, 7, 8, 9, 10, 11, 5, 12, 34, 35, 36, 37, 38] (by decide +kernel) (by decide +kernel)) (goodIn_sub (fun _ h => List.mem_cons_of_mem _ (List.mem_append_left _ (List.mem_append_right _ h))) (by decide +kernel))
set_option maxRecDepth 20000 in
theorem gX5_due_X5_customerNumbered : GoodIn wsX5_due (wsV RX5 68 RX5 yX5_customerNumbered wsX5_customerNumbered) := goodIn_app (goodIn_of _ (by decide +kernel)) ggX5_due_X5_customerNumbered
set_option maxRecDepth 20000 in
theorem ggX5_due_X5_requireRange : GoodIn wsX5_due wsX5_requireRange := goodIn_ca (goodIn_r _ [15, 16, 17] (by decide +kernel) (by decide +kernel)) (goodIn_sub (fun _ h => List.mem_cons_of_mem _ (List.mem_append_right _ h)) (by decide +kernel))
set_option maxRecDepth 20000 in
theorem gX5_due_X5_requireRange : GoodIn wsX5_due (va_wsS RX5 43 yX5_requireRange wsX5_requireRange) := goodIn_app (goodIn_of _ (by decide +kernel)) ggX5_due_X5_requireRange
set_option maxRecDepth 20000 in
theorem ggX5_due_X3_netAmount : GoodIn wsX5_due wsX3_netAmount := goodIn_r _ [22, 23, 24, 25, 21, 26, 27, 11, 5, 12, 28, 29, 30, 31, 32, 33, 41, 42, 43, 44] (by decide +kernel) (by decide +kernel)
set_option maxRecDepth 20000 in
theorem gX5_due_X3_netAmount : GoodIn wsX5_due (wsV RX5 180 RX3 yX3_netAmount wsX3_netAmount) := goodIn_app (goodIn_of _ (by decide +kernel)) ggX5_due_X3_netAmount
theorem dX5_due_0 : decode cX5_due 0 = .ok (.aload_n 0, 1) := by decide +kernel
theorem dX5_due_1 : decode cX5_due 1 = .ok (.iload_n 1, 1) := by decide +kernel
theorem dX5_due_2 : decode cX5_due 2 = .ok (.invokevirtual 68, 3) := by decide +kernel
theorem dX5_due_5 : decode cX5_due 5 = .ok (.astore 4, 2) := by decide +kernel
theorem dX5_due_7 : decode cX5_due 7 = .ok (.iload_n 2, 1) := by decide +kernel
theorem dX5_due_8 : decode cX5_due 8 = .ok (.iconst 0, 1) := by decide +kernel
theorem dX5_due_9 : decode cX5_due 9 = .ok (.iconst 4, 1) := by decide +kernel
theorem dX5_due_10 : decode cX5_due 10 = .ok (.invokestatic 43, 3) := by decide +kernel
theorem dX5_due_13 : decode cX5_due 13 = .ok (.iload_n 3, 1) := by decide +kernel
theorem dX5_due_14 : decode cX5_due 14 = .ok (.iconst 1, 1) := by decide +kernel
theorem dX5_due_15 : decode cX5_due 15 = .ok (.bipush 20, 2) := by decide +kernel
theorem dX5_due_17 : decode cX5_due 17 = .ok (.invokestatic 43, 3) := by decide +kernel
theorem dX5_due_20 : decode cX5_due 20 = .ok (.aload 4, 2) := by decide +kernel
theorem dX5_due_22 : decode cX5_due 22 = .ok (.iload_n 2, 1) := by decide +kernel
theorem dX5_due_23 : decode cX5_due 23 = .ok (.aload_n 0, 1) := by decide +kernel
theorem dX5_due_24 : decode cX5_due 24 = .ok (.getfield 12, 3) := by decide +kernel
theorem dX5_due_27 : decode cX5_due 27 = .ok (.getfield 54, 3) := by decide +kernel
theorem dX5_due_30 : decode cX5_due 30 = .ok (.iload_n 3, 1) := by decide +kernel
theorem dX5_due_31 : decode cX5_due 31 = .ok (.iadd, 1) := by decide +kernel
theorem dX5_due_32 : decode cX5_due 32 = .ok (.invokevirtual 180, 3) := by decide +kernel
theorem dX5_due_35 : decode cX5_due 35 = .ok (.lreturn, 1) := by decide +kernel
set_option maxRecDepth 20000 in
theorem ggX5_balance_X5_customerNumbered : GoodIn wsX5_balance wsX5_customerNumbered := goodIn_ca (goodIn_r _ [5, 6, 7, 8, 9, 10, 4, 11, 26, 27, 28, 29, 30] (by decide +kernel) (by decide +kernel)) (goodIn_sub (fun _ h => List.mem_cons_of_mem _ (List.mem_append_left _ (List.mem_append_right _ h))) (by decide +kernel))
set_option maxRecDepth 20000 in
theorem gX5_balance_X5_customerNumbered : GoodIn wsX5_balance (wsV RX5 68 RX5 yX5_customerNumbered wsX5_customerNumbered) := goodIn_app (goodIn_of _ (by decide +kernel)) ggX5_balance_X5_customerNumbered
set_option maxRecDepth 20000 in
theorem ggX5_balance_X5_requireRange : GoodIn wsX5_balance wsX5_requireRange := goodIn_ca (goodIn_r _ [14, 15, 16] (by decide +kernel) (by decide +kernel)) (goodIn_sub (fun _ h => List.mem_cons_of_mem _ (List.mem_append_right _ h)) (by decide +kernel))
set_option maxRecDepth 20000 in
theorem gX5_balance_X5_requireRange : GoodIn wsX5_balance (va_wsS RX5 43 yX5_requireRange wsX5_requireRange) := goodIn_app (goodIn_of _ (by decide +kernel)) ggX5_balance_X5_requireRange
set_option maxRecDepth 20000 in
theorem ggX5_balance_X0_amountOf : GoodIn wsX5_balance wsX0_amountOf := goodIn_r _ [21, 22, 10, 4, 11, 31] (by decide +kernel) (by decide +kernel)
set_option maxRecDepth 20000 in
theorem gX5_balance_X0_amountOf : GoodIn wsX5_balance (wsV RX5 187 RX0 yX0_amountOf wsX0_amountOf) := goodIn_app (goodIn_of _ (by decide +kernel)) ggX5_balance_X0_amountOf
theorem dX5_balance_0 : decode cX5_balance 0 = .ok (.aload_n 0, 1) := by decide +kernel
theorem dX5_balance_1 : decode cX5_balance 1 = .ok (.iload_n 1, 1) := by decide +kernel
theorem dX5_balance_2 : decode cX5_balance 2 = .ok (.invokevirtual 68, 3) := by decide +kernel
theorem dX5_balance_5 : decode cX5_balance 5 = .ok (.astore_n 3, 1) := by decide +kernel
theorem dX5_balance_6 : decode cX5_balance 6 = .ok (.iload_n 2, 1) := by decide +kernel
theorem dX5_balance_7 : decode cX5_balance 7 = .ok (.iconst 0, 1) := by decide +kernel
theorem dX5_balance_8 : decode cX5_balance 8 = .ok (.iconst 4, 1) := by decide +kernel
theorem dX5_balance_9 : decode cX5_balance 9 = .ok (.invokestatic 43, 3) := by decide +kernel
theorem dX5_balance_12 : decode cX5_balance 12 = .ok (.aload_n 3, 1) := by decide +kernel
theorem dX5_balance_13 : decode cX5_balance 13 = .ok (.getfield 183, 3) := by decide +kernel
theorem dX5_balance_16 : decode cX5_balance 16 = .ok (.iload_n 2, 1) := by decide +kernel
theorem dX5_balance_17 : decode cX5_balance 17 = .ok (.invokevirtual 187, 3) := by decide +kernel
theorem dX5_balance_20 : decode cX5_balance 20 = .ok (.lreturn, 1) := by decide +kernel
set_option maxRecDepth 20000 in
theorem ggX5_pass_X5_requireRange : GoodIn wsX5_pass wsX5_requireRange := goodIn_ca (goodIn_r _ [7, 8, 9] (by decide +kernel) (by decide +kernel)) (goodIn_sub (fun _ h => List.mem_cons_of_mem _ (List.mem_append_right _ h)) (by decide +kernel))
set_option maxRecDepth 20000 in
theorem gX5_pass_X5_requireRange : GoodIn wsX5_pass (va_wsS RX5 43 yX5_requireRange wsX5_requireRange) := goodIn_app (goodIn_of _ (by decide +kernel)) ggX5_pass_X5_requireRange
set_option maxRecDepth 20000 in
theorem ggX5_pass_X5_endDealsOfToday : GoodIn wsX5_pass wsX5_endDealsOfToday := goodIn_r _ [13, 14, 3, 15, 16, 17, 6, 18, 19, 20, 21, 22, 23, 24, 25, 26, 27, 28, 29, 30, 31, 32, 33, 34, 35, 36, 37, 38, 39, 40, 41, 42, 43, 44, 45, 46, 47, 48, 49, 50, 51, 52, 53, 54, 55, 56, 57, 58, 59, 60, 61, 62, 63, 64, 65, 66, 67, 68, 69, 70, 71, 72, 73, 74, 75, 76, 77, 78, 79, 80, 81, 82, 83, 84, 85, 86, 87, 88, 89, 90, 91, 115, 116, 117, 118, 119, 122, 123, 124, 125, 126, 127, 128, 120, 121, 129, 130, 131, 132, 133, 134, 135] (by decide +kernel) (by decide +kernel)
set_option maxRecDepth 20000 in
theorem gX5_pass_X5_endDealsOfToday : GoodIn wsX5_pass (wsV RX5 194 RX5 yX5_endDealsOfToday wsX5_endDealsOfToday) := goodIn_app (goodIn_of _ (by decide +kernel)) ggX5_pass_X5_endDealsOfToday
set_option maxRecDepth 20000 in
theorem ggX5_pass_X5_settleAll : GoodIn wsX5_pass wsX5_settleAll := goodIn_r _ [95, 96, 97, 98, 99, 75, 100, 101, 102, 103, 104, 105, 77, 70, 6, 71, 106, 107, 108, 80, 109, 110, 111, 112, 113, 87, 114, 89, 90, 91, 115, 116, 117, 118, 119, 132, 133, 134, 135] (by decide +kernel) (by decide +kernel)
set_option maxRecDepth 20000 in
theorem gX5_pass_X5_settleAll : GoodIn wsX5_pass (wsV RX5 197 RX5 yX5_settleAll wsX5_settleAll) := goodIn_app (goodIn_of _ (by decide +kernel)) ggX5_pass_X5_settleAll
theorem dX5_pass_0 : decode cX5_pass 0 = .ok (.iload_n 1, 1) := by decide +kernel
theorem dX5_pass_1 : decode cX5_pass 1 = .ok (.iconst 1, 1) := by decide +kernel
theorem dX5_pass_2 : decode cX5_pass 2 = .ok (.bipush 100, 2) := by decide +kernel
theorem dX5_pass_4 : decode cX5_pass 4 = .ok (.invokestatic 43, 3) := by decide +kernel
theorem dX5_pass_7 : decode cX5_pass 7 = .ok (.aload_n 0, 1) := by decide +kernel
theorem dX5_pass_8 : decode cX5_pass 8 = .ok (.getfield 12, 3) := by decide +kernel
theorem dX5_pass_11 : decode cX5_pass 11 = .ok (.getfield 54, 3) := by decide +kernel
theorem dX5_pass_14 : decode cX5_pass 14 = .ok (.iload_n 1, 1) := by decide +kernel
theorem dX5_pass_15 : decode cX5_pass 15 = .ok (.iadd, 1) := by decide +kernel
theorem dX5_pass_16 : decode cX5_pass 16 = .ok (.sipush 1000, 3) := by decide +kernel
theorem dX5_pass_19 : decode cX5_pass 19 = .ok (.if_icmp .le 13, 3) := by decide +kernel
theorem dX5_pass_22 : decode cX5_pass 22 = .ok (.new 57, 3) := by decide +kernel
theorem dX5_pass_25 : decode cX5_pass 25 = .ok (.dup, 1) := by decide +kernel
theorem dX5_pass_26 : decode cX5_pass 26 = .ok (.ldc 192, 2) := by decide +kernel
theorem dX5_pass_28 : decode cX5_pass 28 = .ok (.invokespecial 61, 3) := by decide +kernel
theorem dX5_pass_31 : decode cX5_pass 31 = .ok (.athrow, 1) := by decide +kernel
theorem dX5_pass_32 : decode cX5_pass 32 = .ok (.iconst 0, 1) := by decide +kernel
theorem dX5_pass_33 : decode cX5_pass 33 = .ok (.istore_n 2, 1) := by decide +kernel
theorem dX5_pass_34 : decode cX5_pass 34 = .ok (.iconst 0, 1) := by decide +kernel
theorem dX5_pass_35 : decode cX5_pass 35 = .ok (.istore_n 3, 1) := by decide +kernel
theorem dX5_pass_36 : decode cX5_pass 36 = .ok (.iload_n 3, 1) := by decide +kernel
theorem dX5_pass_37 : decode cX5_pass 37 = .ok (.iload_n 1, 1) := by decide +kernel
theorem dX5_pass_38 : decode cX5_pass 38 = .ok (.if_icmp .ge 40, 3) := by decide +kernel
theorem dX5_pass_41 : decode cX5_pass 41 = .ok (.iload_n 2, 1) := by decide +kernel
theorem dX5_pass_42 : decode cX5_pass 42 = .ok (.aload_n 0, 1) := by decide +kernel
theorem dX5_pass_43 : decode cX5_pass 43 = .ok (.invokevirtual 194, 3) := by decide +kernel
theorem dX5_pass_46 : decode cX5_pass 46 = .ok (.iadd, 1) := by decide +kernel
theorem dX5_pass_47 : decode cX5_pass 47 = .ok (.istore_n 2, 1) := by decide +kernel
theorem dX5_pass_48 : decode cX5_pass 48 = .ok (.aload_n 0, 1) := by decide +kernel
theorem dX5_pass_49 : decode cX5_pass 49 = .ok (.getfield 12, 3) := by decide +kernel
theorem dX5_pass_52 : decode cX5_pass 52 = .ok (.dup, 1) := by decide +kernel
theorem dX5_pass_53 : decode cX5_pass 53 = .ok (.getfield 54, 3) := by decide +kernel
theorem dX5_pass_56 : decode cX5_pass 56 = .ok (.iconst 1, 1) := by decide +kernel
theorem dX5_pass_57 : decode cX5_pass 57 = .ok (.iadd, 1) := by decide +kernel
theorem dX5_pass_58 : decode cX5_pass 58 = .ok (.putfield 54, 3) := by decide +kernel
theorem dX5_pass_61 : decode cX5_pass 61 = .ok (.aload_n 0, 1) := by decide +kernel
theorem dX5_pass_62 : decode cX5_pass 62 = .ok (.aload_n 0, 1) := by decide +kernel
theorem dX5_pass_63 : decode cX5_pass 63 = .ok (.getfield 12, 3) := by decide +kernel
theorem dX5_pass_66 : decode cX5_pass 66 = .ok (.getfield 54, 3) := by decide +kernel
theorem dX5_pass_69 : decode cX5_pass 69 = .ok (.invokevirtual 197, 3) := by decide +kernel
theorem dX5_pass_72 : decode cX5_pass 72 = .ok (.iinc 3 1, 3) := by decide +kernel
theorem dX5_pass_75 : decode cX5_pass 75 = .ok (.goto (-39), 3) := by decide +kernel
theorem dX5_pass_78 : decode cX5_pass 78 = .ok (.iload_n 2, 1) := by decide +kernel
theorem dX5_pass_79 : decode cX5_pass 79 = .ok (.ireturn, 1) := by decide +kernel
theorem dX5_today_0 : decode cX5_today 0 = .ok (.aload_n 0, 1) := by decide +kernel
theorem dX5_today_1 : decode cX5_today 1 = .ok (.getfield 12, 3) := by decide +kernel
theorem dX5_today_4 : decode cX5_today 4 = .ok (.getfield 54, 3) := by decide +kernel
theorem dX5_today_7 : decode cX5_today 7 = .ok (.ireturn, 1) := by decide +kernel
set_option maxRecDepth 20000 in
theorem ggX5_currencyNumbered_X5_isIndex : GoodIn wsX5_currencyNumbered wsX5_isIndex := goodIn_r _ [7] (by decide +kernel) (by decide +kernel)
set_option maxRecDepth 20000 in
theorem gX5_currencyNumbered_X5_isIndex : GoodIn wsX5_currencyNumbered (va_wsS RX5 84 yX5_isIndex wsX5_isIndex) := goodIn_app (goodIn_of _ (by decide +kernel)) ggX5_currencyNumbered_X5_isIndex
theorem dX5_currencyNumbered_0 : decode cX5_currencyNumbered 0 = .ok (.iload_n 1, 1) := by decide +kernel
theorem dX5_currencyNumbered_1 : decode cX5_currencyNumbered 1 = .ok (.aload_n 0, 1) := by decide +kernel
theorem dX5_currencyNumbered_2 : decode cX5_currencyNumbered 2 = .ok (.getfield 18, 3) := by decide +kernel
theorem dX5_currencyNumbered_5 : decode cX5_currencyNumbered 5 = .ok (.arraylength, 1) := by decide +kernel
theorem dX5_currencyNumbered_6 : decode cX5_currencyNumbered 6 = .ok (.invokestatic 84, 3) := by decide +kernel
theorem dX5_currencyNumbered_9 : decode cX5_currencyNumbered 9 = .ok (.ifCond .eq 12, 3) := by decide +kernel
theorem dX5_currencyNumbered_12 : decode cX5_currencyNumbered 12 = .ok (.aload_n 0, 1) := by decide +kernel
theorem dX5_currencyNumbered_13 : decode cX5_currencyNumbered 13 = .ok (.getfield 18, 3) := by decide +kernel
theorem dX5_currencyNumbered_16 : decode cX5_currencyNumbered 16 = .ok (.iload_n 1, 1) := by decide +kernel
theorem dX5_currencyNumbered_17 : decode cX5_currencyNumbered 17 = .ok (.aaload, 1) := by decide +kernel
theorem dX5_currencyNumbered_18 : decode cX5_currencyNumbered 18 = .ok (.goto 4, 3) := by decide +kernel
theorem dX5_currencyNumbered_21 : decode cX5_currencyNumbered 21 = .ok (.aconst_null, 1) := by decide +kernel
theorem dX5_currencyNumbered_22 : decode cX5_currencyNumbered 22 = .ok (.astore_n 2, 1) := by decide +kernel
theorem dX5_currencyNumbered_23 : decode cX5_currencyNumbered 23 = .ok (.aload_n 2, 1) := by decide +kernel
theorem dX5_currencyNumbered_24 : decode cX5_currencyNumbered 24 = .ok (.ifnonnull 13, 3) := by decide +kernel
theorem dX5_currencyNumbered_27 : decode cX5_currencyNumbered 27 = .ok (.new 200, 3) := by decide +kernel
theorem dX5_currencyNumbered_30 : decode cX5_currencyNumbered 30 = .ok (.dup, 1) := by decide +kernel
theorem dX5_currencyNumbered_31 : decode cX5_currencyNumbered 31 = .ok (.ldc 202, 2) := by decide +kernel
theorem dX5_currencyNumbered_33 : decode cX5_currencyNumbered 33 = .ok (.invokespecial 204, 3) := by decide +kernel
theorem dX5_currencyNumbered_36 : decode cX5_currencyNumbered 36 = .ok (.athrow, 1) := by decide +kernel
theorem dX5_currencyNumbered_37 : decode cX5_currencyNumbered 37 = .ok (.aload_n 2, 1) := by decide +kernel
theorem dX5_currencyNumbered_38 : decode cX5_currencyNumbered 38 = .ok (.areturn, 1) := by decide +kernel
set_option maxRecDepth 20000 in
theorem ggX5_customerNumbered_X5_isIndex : GoodIn wsX5_customerNumbered wsX5_isIndex := goodIn_r _ [7] (by decide +kernel) (by decide +kernel)
set_option maxRecDepth 20000 in
theorem gX5_customerNumbered_X5_isIndex : GoodIn wsX5_customerNumbered (va_wsS RX5 84 yX5_isIndex wsX5_isIndex) := goodIn_app (goodIn_of _ (by decide +kernel)) ggX5_customerNumbered_X5_isIndex
theorem dX5_customerNumbered_0 : decode cX5_customerNumbered 0 = .ok (.iload_n 1, 1) := by decide +kernel
theorem dX5_customerNumbered_1 : decode cX5_customerNumbered 1 = .ok (.aload_n 0, 1) := by decide +kernel
theorem dX5_customerNumbered_2 : decode cX5_customerNumbered 2 = .ok (.getfield 27, 3) := by decide +kernel
theorem dX5_customerNumbered_5 : decode cX5_customerNumbered 5 = .ok (.arraylength, 1) := by decide +kernel
theorem dX5_customerNumbered_6 : decode cX5_customerNumbered 6 = .ok (.invokestatic 84, 3) := by decide +kernel
theorem dX5_customerNumbered_9 : decode cX5_customerNumbered 9 = .ok (.ifCond .eq 12, 3) := by decide +kernel
theorem dX5_customerNumbered_12 : decode cX5_customerNumbered 12 = .ok (.aload_n 0, 1) := by decide +kernel
theorem dX5_customerNumbered_13 : decode cX5_customerNumbered 13 = .ok (.getfield 27, 3) := by decide +kernel
theorem dX5_customerNumbered_16 : decode cX5_customerNumbered 16 = .ok (.iload_n 1, 1) := by decide +kernel
theorem dX5_customerNumbered_17 : decode cX5_customerNumbered 17 = .ok (.aaload, 1) := by decide +kernel
theorem dX5_customerNumbered_18 : decode cX5_customerNumbered 18 = .ok (.goto 4, 3) := by decide +kernel
theorem dX5_customerNumbered_21 : decode cX5_customerNumbered 21 = .ok (.aconst_null, 1) := by decide +kernel
theorem dX5_customerNumbered_22 : decode cX5_customerNumbered 22 = .ok (.astore_n 2, 1) := by decide +kernel
theorem dX5_customerNumbered_23 : decode cX5_customerNumbered 23 = .ok (.aload_n 2, 1) := by decide +kernel
theorem dX5_customerNumbered_24 : decode cX5_customerNumbered 24 = .ok (.ifnonnull 13, 3) := by decide +kernel
theorem dX5_customerNumbered_27 : decode cX5_customerNumbered 27 = .ok (.new 200, 3) := by decide +kernel
theorem dX5_customerNumbered_30 : decode cX5_customerNumbered 30 = .ok (.dup, 1) := by decide +kernel
theorem dX5_customerNumbered_31 : decode cX5_customerNumbered 31 = .ok (.ldc 205, 2) := by decide +kernel
theorem dX5_customerNumbered_33 : decode cX5_customerNumbered 33 = .ok (.invokespecial 204, 3) := by decide +kernel
theorem dX5_customerNumbered_36 : decode cX5_customerNumbered 36 = .ok (.athrow, 1) := by decide +kernel
theorem dX5_customerNumbered_37 : decode cX5_customerNumbered 37 = .ok (.aload_n 2, 1) := by decide +kernel
theorem dX5_customerNumbered_38 : decode cX5_customerNumbered 38 = .ok (.areturn, 1) := by decide +kernel
set_option maxRecDepth 20000 in
theorem ggX5_dealNumbered_X5_isIndex : GoodIn wsX5_dealNumbered wsX5_isIndex := goodIn_r _ [7] (by decide +kernel) (by decide +kernel)
set_option maxRecDepth 20000 in
theorem gX5_dealNumbered_X5_isIndex : GoodIn wsX5_dealNumbered (va_wsS RX5 84 yX5_isIndex wsX5_isIndex) := goodIn_app (goodIn_of _ (by decide +kernel)) ggX5_dealNumbered_X5_isIndex
theorem dX5_dealNumbered_0 : decode cX5_dealNumbered 0 = .ok (.iload_n 1, 1) := by decide +kernel
theorem dX5_dealNumbered_1 : decode cX5_dealNumbered 1 = .ok (.aload_n 0, 1) := by decide +kernel
theorem dX5_dealNumbered_2 : decode cX5_dealNumbered 2 = .ok (.getfield 34, 3) := by decide +kernel
theorem dX5_dealNumbered_5 : decode cX5_dealNumbered 5 = .ok (.arraylength, 1) := by decide +kernel
theorem dX5_dealNumbered_6 : decode cX5_dealNumbered 6 = .ok (.invokestatic 84, 3) := by decide +kernel
theorem dX5_dealNumbered_9 : decode cX5_dealNumbered 9 = .ok (.ifCond .eq 12, 3) := by decide +kernel
theorem dX5_dealNumbered_12 : decode cX5_dealNumbered 12 = .ok (.aload_n 0, 1) := by decide +kernel
theorem dX5_dealNumbered_13 : decode cX5_dealNumbered 13 = .ok (.getfield 34, 3) := by decide +kernel
theorem dX5_dealNumbered_16 : decode cX5_dealNumbered 16 = .ok (.iload_n 1, 1) := by decide +kernel
theorem dX5_dealNumbered_17 : decode cX5_dealNumbered 17 = .ok (.aaload, 1) := by decide +kernel
theorem dX5_dealNumbered_18 : decode cX5_dealNumbered 18 = .ok (.goto 4, 3) := by decide +kernel
theorem dX5_dealNumbered_21 : decode cX5_dealNumbered 21 = .ok (.aconst_null, 1) := by decide +kernel
theorem dX5_dealNumbered_22 : decode cX5_dealNumbered 22 = .ok (.astore_n 2, 1) := by decide +kernel
theorem dX5_dealNumbered_23 : decode cX5_dealNumbered 23 = .ok (.aload_n 2, 1) := by decide +kernel
theorem dX5_dealNumbered_24 : decode cX5_dealNumbered 24 = .ok (.ifnonnull 13, 3) := by decide +kernel
theorem dX5_dealNumbered_27 : decode cX5_dealNumbered 27 = .ok (.new 200, 3) := by decide +kernel
theorem dX5_dealNumbered_30 : decode cX5_dealNumbered 30 = .ok (.dup, 1) := by decide +kernel
theorem dX5_dealNumbered_31 : decode cX5_dealNumbered 31 = .ok (.ldc 207, 2) := by decide +kernel
theorem dX5_dealNumbered_33 : decode cX5_dealNumbered 33 = .ok (.invokespecial 204, 3) := by decide +kernel
theorem dX5_dealNumbered_36 : decode cX5_dealNumbered 36 = .ok (.athrow, 1) := by decide +kernel
theorem dX5_dealNumbered_37 : decode cX5_dealNumbered 37 = .ok (.aload_n 2, 1) := by decide +kernel
theorem dX5_dealNumbered_38 : decode cX5_dealNumbered 38 = .ok (.areturn, 1) := by decide +kernel
theorem dX5_requireRange_0 : decode cX5_requireRange 0 = .ok (.iload_n 0, 1) := by decide +kernel
theorem dX5_requireRange_1 : decode cX5_requireRange 1 = .ok (.iload_n 1, 1) := by decide +kernel
theorem dX5_requireRange_2 : decode cX5_requireRange 2 = .ok (.if_icmp .lt 8, 3) := by decide +kernel
theorem dX5_requireRange_5 : decode cX5_requireRange 5 = .ok (.iload_n 0, 1) := by decide +kernel
theorem dX5_requireRange_6 : decode cX5_requireRange 6 = .ok (.iload_n 2, 1) := by decide +kernel
theorem dX5_requireRange_7 : decode cX5_requireRange 7 = .ok (.if_icmp .le 13, 3) := by decide +kernel
theorem dX5_requireRange_10 : decode cX5_requireRange 10 = .ok (.new 209, 3) := by decide +kernel
theorem dX5_requireRange_13 : decode cX5_requireRange 13 = .ok (.dup, 1) := by decide +kernel
theorem dX5_requireRange_14 : decode cX5_requireRange 14 = .ok (.ldc 211, 2) := by decide +kernel
theorem dX5_requireRange_16 : decode cX5_requireRange 16 = .ok (.invokespecial 213, 3) := by decide +kernel
theorem dX5_requireRange_19 : decode cX5_requireRange 19 = .ok (.athrow, 1) := by decide +kernel
theorem dX5_requireRange_20 : decode cX5_requireRange 20 = .ok (.return_, 1) := by decide +kernel
theorem dX5_requireLeft_0 : decode cX5_requireLeft 0 = .ok (.aload_n 0, 1) := by decide +kernel
theorem dX5_requireLeft_1 : decode cX5_requireLeft 1 = .ok (.getfield 103, 3) := by decide +kernel
theorem dX5_requireLeft_4 : decode cX5_requireLeft 4 = .ok (.ifCond .ne 13, 3) := by decide +kernel
theorem dX5_requireLeft_7 : decode cX5_requireLeft 7 = .ok (.new 57, 3) := by decide +kernel
theorem dX5_requireLeft_10 : decode cX5_requireLeft 10 = .ok (.dup, 1) := by decide +kernel
theorem dX5_requireLeft_11 : decode cX5_requireLeft 11 = .ok (.ldc 214, 2) := by decide +kernel
theorem dX5_requireLeft_13 : decode cX5_requireLeft 13 = .ok (.invokespecial 61, 3) := by decide +kernel
theorem dX5_requireLeft_16 : decode cX5_requireLeft 16 = .ok (.athrow, 1) := by decide +kernel
theorem dX5_requireLeft_17 : decode cX5_requireLeft 17 = .ok (.return_, 1) := by decide +kernel
theorem dX5_isIndex_0 : decode cX5_isIndex 0 = .ok (.iload_n 0, 1) := by decide +kernel
theorem dX5_isIndex_1 : decode cX5_isIndex 1 = .ok (.ifCond .lt 12, 3) := by decide +kernel
theorem dX5_isIndex_4 : decode cX5_isIndex 4 = .ok (.iload_n 0, 1) := by decide +kernel
theorem dX5_isIndex_5 : decode cX5_isIndex 5 = .ok (.iload_n 1, 1) := by decide +kernel
theorem dX5_isIndex_6 : decode cX5_isIndex 6 = .ok (.if_icmp .ge 7, 3) := by decide +kernel
theorem dX5_isIndex_9 : decode cX5_isIndex 9 = .ok (.iconst 1, 1) := by decide +kernel
theorem dX5_isIndex_10 : decode cX5_isIndex 10 = .ok (.goto 4, 3) := by decide +kernel
theorem dX5_isIndex_13 : decode cX5_isIndex 13 = .ok (.iconst 0, 1) := by decide +kernel
theorem dX5_isIndex_14 : decode cX5_isIndex 14 = .ok (.ireturn, 1) := by decide +kernel
set_option maxRecDepth 20000 in
theorem ggX5_endDealsOfToday_X5_endDeal : GoodIn wsX5_endDealsOfToday wsX5_endDeal := goodIn_r _ [7, 8, 9, 10, 6, 11, 2, 12, 13, 14, 15, 16, 17, 18, 19, 20, 21, 22, 23, 24, 25, 26, 27, 28, 29, 30, 31, 32, 33, 34, 35, 36, 37, 38, 39, 40, 41, 42, 43, 44, 45, 46, 47, 48, 49, 50, 51, 52, 53, 54, 55, 56, 57, 58, 59, 60, 61, 62, 63, 64, 65, 66, 67, 68, 69, 70, 71, 72, 73, 74, 75, 76, 77, 78, 79, 80, 86, 87, 88, 89, 90, 91, 92, 81, 82, 83, 84, 85, 93, 94, 95, 96, 97, 98, 99, 100, 101] (by decide +kernel) (by decide +kernel)
set_option maxRecDepth 20000 in
theorem gX5_endDealsOfToday_X5_endDeal : GoodIn wsX5_endDealsOfToday (wsV RX5 162 RX5 yX5_endDeal wsX5_endDeal) := goodIn_app (goodIn_of _ (by decide +kernel)) ggX5_endDealsOfToday_X5_endDeal
theorem dX5_endDealsOfToday_0 : decode cX5_endDealsOfToday 0 = .ok (.iconst 0, 1) := by decide +kernel
theorem dX5_endDealsOfToday_1 : decode cX5_endDealsOfToday 1 = .ok (.istore_n 1, 1) := by decide +kernel
theorem dX5_endDealsOfToday_2 : decode cX5_endDealsOfToday 2 = .ok (.aload_n 0, 1) := by decide +kernel
theorem dX5_endDealsOfToday_3 : decode cX5_endDealsOfToday 3 = .ok (.getfield 34, 3) := by decide +kernel
theorem dX5_endDealsOfToday_6 : decode cX5_endDealsOfToday 6 = .ok (.astore_n 2, 1) := by decide +kernel
theorem dX5_endDealsOfToday_7 : decode cX5_endDealsOfToday 7 = .ok (.aload_n 2, 1) := by decide +kernel
theorem dX5_endDealsOfToday_8 : decode cX5_endDealsOfToday 8 = .ok (.arraylength, 1) := by decide +kernel
theorem dX5_endDealsOfToday_9 : decode cX5_endDealsOfToday 9 = .ok (.istore_n 3, 1) := by decide +kernel
theorem dX5_endDealsOfToday_10 : decode cX5_endDealsOfToday 10 = .ok (.iconst 0, 1) := by decide +kernel
theorem dX5_endDealsOfToday_11 : decode cX5_endDealsOfToday 11 = .ok (.istore 4, 2) := by decide +kernel
theorem dX5_endDealsOfToday_13 : decode cX5_endDealsOfToday 13 = .ok (.iload 4, 2) := by decide +kernel
theorem dX5_endDealsOfToday_15 : decode cX5_endDealsOfToday 15 = .ok (.iload_n 3, 1) := by decide +kernel
theorem dX5_endDealsOfToday_16 : decode cX5_endDealsOfToday 16 = .ok (.if_icmp .ge 53, 3) := by decide +kernel
theorem dX5_endDealsOfToday_19 : decode cX5_endDealsOfToday 19 = .ok (.aload_n 2, 1) := by decide +kernel
theorem dX5_endDealsOfToday_20 : decode cX5_endDealsOfToday 20 = .ok (.iload 4, 2) := by decide +kernel
theorem dX5_endDealsOfToday_22 : decode cX5_endDealsOfToday 22 = .ok (.aaload, 1) := by decide +kernel
theorem dX5_endDealsOfToday_23 : decode cX5_endDealsOfToday 23 = .ok (.astore 5, 2) := by decide +kernel
theorem dX5_endDealsOfToday_25 : decode cX5_endDealsOfToday 25 = .ok (.aload 5, 2) := by decide +kernel
theorem dX5_endDealsOfToday_27 : decode cX5_endDealsOfToday 27 = .ok (.ifnull 36, 3) := by decide +kernel
theorem dX5_endDealsOfToday_30 : decode cX5_endDealsOfToday 30 = .ok (.aload 5, 2) := by decide +kernel
theorem dX5_endDealsOfToday_32 : decode cX5_endDealsOfToday 32 = .ok (.getfield 103, 3) := by decide +kernel
theorem dX5_endDealsOfToday_35 : decode cX5_endDealsOfToday 35 = .ok (.ifCond .le 28, 3) := by decide +kernel
theorem dX5_endDealsOfToday_38 : decode cX5_endDealsOfToday 38 = .ok (.aload 5, 2) := by decide +kernel
theorem dX5_endDealsOfToday_40 : decode cX5_endDealsOfToday 40 = .ok (.getfield 140, 3) := by decide +kernel
theorem dX5_endDealsOfToday_43 : decode cX5_endDealsOfToday 43 = .ok (.aload_n 0, 1) := by decide +kernel
theorem dX5_endDealsOfToday_44 : decode cX5_endDealsOfToday 44 = .ok (.getfield 12, 3) := by decide +kernel
theorem dX5_endDealsOfToday_47 : decode cX5_endDealsOfToday 47 = .ok (.getfield 54, 3) := by decide +kernel
theorem dX5_endDealsOfToday_50 : decode cX5_endDealsOfToday 50 = .ok (.if_icmp .ne 13, 3) := by decide +kernel
theorem dX5_endDealsOfToday_53 : decode cX5_endDealsOfToday 53 = .ok (.aload_n 0, 1) := by decide +kernel
theorem dX5_endDealsOfToday_54 : decode cX5_endDealsOfToday 54 = .ok (.aload 5, 2) := by decide +kernel
theorem dX5_endDealsOfToday_56 : decode cX5_endDealsOfToday 56 = .ok (.invokevirtual 162, 3) := by decide +kernel
theorem dX5_endDealsOfToday_59 : decode cX5_endDealsOfToday 59 = .ok (.pop2, 1) := by decide +kernel
theorem dX5_endDealsOfToday_60 : decode cX5_endDealsOfToday 60 = .ok (.iinc 1 1, 3) := by decide +kernel
theorem dX5_endDealsOfToday_63 : decode cX5_endDealsOfToday 63 = .ok (.iinc 4 1, 3) := by decide +kernel
theorem dX5_endDealsOfToday_66 : decode cX5_endDealsOfToday 66 = .ok (.goto (-53), 3) := by decide +kernel
theorem dX5_endDealsOfToday_69 : decode cX5_endDealsOfToday 69 = .ok (.iload_n 1, 1) := by decide +kernel
theorem dX5_endDealsOfToday_70 : decode cX5_endDealsOfToday 70 = .ok (.ireturn, 1) := by decide +kernel
set_option maxRecDepth 20000 in
theorem ggX5_endDeal_X5_bookGain : GoodIn wsX5_endDeal wsX5_bookGain := goodIn_r _ [5, 6, 7, 8, 9, 10, 11, 12, 13, 14, 15, 16, 17, 18, 19, 20, 21, 22, 23, 24, 25, 26, 27, 28, 29, 30, 31, 32, 33, 34, 35, 36, 37, 38, 39, 40, 4, 41, 42, 43, 44, 45, 46, 47, 48, 49, 50, 51, 52, 53, 54, 55, 56, 57, 58, 59, 60, 61, 62, 63, 64, 65, 66, 67, 68, 69, 70, 71, 72, 73, 74, 75, 83, 84, 85, 86, 87, 88, 89, 76, 77, 78, 79, 80, 81, 82, 90, 91, 92, 93, 94, 95, 96] (by decide +kernel) (by decide +kernel)
set_option maxRecDepth 20000 in
theorem gX5_endDeal_X5_bookGain : GoodIn wsX5_endDeal (wsV RX5 145 RX5 yX5_bookGain wsX5_bookGain) := goodIn_app (goodIn_of _ (by decide +kernel)) ggX5_endDeal_X5_bookGain
theorem dX5_endDeal_0 : decode cX5_endDeal 0 = .ok (.aload_n 0, 1) := by decide +kernel
theorem dX5_endDeal_1 : decode cX5_endDeal 1 = .ok (.aload_n 1, 1) := by decide +kernel
theorem dX5_endDeal_2 : decode cX5_endDeal 2 = .ok (.invokevirtual 145, 3) := by decide +kernel
theorem dX5_endDeal_5 : decode cX5_endDeal 5 = .ok (.lstore_n 2, 1) := by decide +kernel
theorem dX5_endDeal_6 : decode cX5_endDeal 6 = .ok (.aload_n 1, 1) := by decide +kernel
theorem dX5_endDeal_7 : decode cX5_endDeal 7 = .ok (.iconst 0, 1) := by decide +kernel
theorem dX5_endDeal_8 : decode cX5_endDeal 8 = .ok (.putfield 103, 3) := by decide +kernel
theorem dX5_endDeal_11 : decode cX5_endDeal 11 = .ok (.lload_n 2, 1) := by decide +kernel
theorem dX5_endDeal_12 : decode cX5_endDeal 12 = .ok (.lreturn, 1) := by decide +kernel
set_option maxRecDepth 20000 in
theorem ggX5_bookGain_X4_marketGain : GoodIn wsX5_bookGain wsX4_marketGain := goodIn_r _ [6, 7, 8, 9, 5, 10, 11, 12, 13, 14, 15, 16, 17, 18, 19, 20, 21, 22, 23, 24, 25, 26, 27, 28, 29, 30, 31, 32, 33, 34, 35, 36, 37, 38, 79, 80, 81, 82, 83, 84, 85, 86, 87, 88] (by decide +kernel) (by decide +kernel)
set_option maxRecDepth 20000 in
theorem gX5_bookGain_X4_marketGain : GoodIn wsX5_bookGain (wsV RX5 168 RX4 yX4_marketGain wsX4_marketGain) := goodIn_app (goodIn_of _ (by decide +kernel)) ggX5_bookGain_X4_marketGain
set_option maxRecDepth 20000 in
theorem ggX5_bookGain_X1_nextBusinessDay : GoodIn wsX5_bookGain wsX1_nextBusinessDay := goodIn_r _ [43, 44, 45, 46, 47, 42, 48, 49, 50, 36, 51, 77, 78] (by decide +kernel) (by decide +kernel)
set_option maxRecDepth 20000 in
theorem gX5_bookGain_X1_nextBusinessDay : GoodIn wsX5_bookGain (wsV RX5 113 RX1 yX1_nextBusinessDay wsX1_nextBusinessDay) := goodIn_app (goodIn_of _ (by decide +kernel)) ggX5_bookGain_X1_nextBusinessDay
set_option maxRecDepth 20000 in
theorem ggX5_bookGain_X3_book : GoodIn wsX5_bookGain wsX3_book := goodIn_r _ [56, 57, 58, 59, 60, 50, 36, 51, 61, 62, 63, 64, 65, 66, 67, 68, 69, 70, 71, 89, 90, 91, 92] (by decide +kernel) (by decide +kernel)
set_option maxRecDepth 20000 in
theorem gX5_bookGain_X3_book : GoodIn wsX5_bookGain (wsV RX5 132 RX3 yX3_book wsX3_book) := goodIn_app (goodIn_of _ (by decide +kernel)) ggX5_bookGain_X3_book
theorem dX5_bookGain_0 : decode cX5_bookGain 0 = .ok (.aload_n 1, 1) := by decide +kernel
theorem dX5_bookGain_1 : decode cX5_bookGain 1 = .ok (.aload_n 0, 1) := by decide +kernel
theorem dX5_bookGain_2 : decode cX5_bookGain 2 = .ok (.getfield 12, 3) := by decide +kernel
theorem dX5_bookGain_5 : decode cX5_bookGain 5 = .ok (.getfield 54, 3) := by decide +kernel
theorem dX5_bookGain_8 : decode cX5_bookGain 8 = .ok (.invokevirtual 168, 3) := by decide +kernel
theorem dX5_bookGain_11 : decode cX5_bookGain 11 = .ok (.lstore_n 2, 1) := by decide +kernel
theorem dX5_bookGain_12 : decode cX5_bookGain 12 = .ok (.aload_n 1, 1) := by decide +kernel
theorem dX5_bookGain_13 : decode cX5_bookGain 13 = .ok (.getfield 117, 3) := by decide +kernel
theorem dX5_bookGain_16 : decode cX5_bookGain 16 = .ok (.iconst 4, 1) := by decide +kernel
theorem dX5_bookGain_17 : decode cX5_bookGain 17 = .ok (.aload_n 0, 1) := by decide +kernel
theorem dX5_bookGain_18 : decode cX5_bookGain 18 = .ok (.getfield 12, 3) := by decide +kernel
theorem dX5_bookGain_21 : decode cX5_bookGain 21 = .ok (.invokevirtual 113, 3) := by decide +kernel
theorem dX5_bookGain_24 : decode cX5_bookGain 24 = .ok (.lload_n 2, 1) := by decide +kernel
theorem dX5_bookGain_25 : decode cX5_bookGain 25 = .ok (.invokevirtual 132, 3) := by decide +kernel
theorem dX5_bookGain_28 : decode cX5_bookGain 28 = .ok (.lload_n 2, 1) := by decide +kernel
theorem dX5_bookGain_29 : decode cX5_bookGain 29 = .ok (.lreturn, 1) := by decide +kernel
set_option maxRecDepth 20000 in
theorem ggX5_settleAll_X3_settle : GoodIn wsX5_settleAll wsX3_settle := goodIn_r _ [6, 7, 8, 9, 10, 5, 11, 12, 13, 14, 15, 16, 17, 18, 19, 20, 21, 22, 23, 24, 25, 26, 27, 28, 29, 35, 36, 37, 38] (by decide +kernel) (by decide +kernel)
set_option maxRecDepth 20000 in
theorem gX5_settleAll_X3_settle : GoodIn wsX5_settleAll (wsV RX5 216 RX3 yX3_settle wsX3_settle) := goodIn_app (goodIn_of _ (by decide +kernel)) ggX5_settleAll_X3_settle
theorem dX5_settleAll_0 : decode cX5_settleAll 0 = .ok (.aload_n 0, 1) := by decide +kernel
theorem dX5_settleAll_1 : decode cX5_settleAll 1 = .ok (.getfield 27, 3) := by decide +kernel
theorem dX5_settleAll_4 : decode cX5_settleAll 4 = .ok (.astore_n 2, 1) := by decide +kernel
theorem dX5_settleAll_5 : decode cX5_settleAll 5 = .ok (.aload_n 2, 1) := by decide +kernel
theorem dX5_settleAll_6 : decode cX5_settleAll 6 = .ok (.arraylength, 1) := by decide +kernel
theorem dX5_settleAll_7 : decode cX5_settleAll 7 = .ok (.istore_n 3, 1) := by decide +kernel
theorem dX5_settleAll_8 : decode cX5_settleAll 8 = .ok (.iconst 0, 1) := by decide +kernel
theorem dX5_settleAll_9 : decode cX5_settleAll 9 = .ok (.istore 4, 2) := by decide +kernel
theorem dX5_settleAll_11 : decode cX5_settleAll 11 = .ok (.iload 4, 2) := by decide +kernel
theorem dX5_settleAll_13 : decode cX5_settleAll 13 = .ok (.iload_n 3, 1) := by decide +kernel
theorem dX5_settleAll_14 : decode cX5_settleAll 14 = .ok (.if_icmp .ge 26, 3) := by decide +kernel
theorem dX5_settleAll_17 : decode cX5_settleAll 17 = .ok (.aload_n 2, 1) := by decide +kernel
theorem dX5_settleAll_18 : decode cX5_settleAll 18 = .ok (.iload 4, 2) := by decide +kernel
theorem dX5_settleAll_20 : decode cX5_settleAll 20 = .ok (.aaload, 1) := by decide +kernel
theorem dX5_settleAll_21 : decode cX5_settleAll 21 = .ok (.astore 5, 2) := by decide +kernel
theorem dX5_settleAll_23 : decode cX5_settleAll 23 = .ok (.aload 5, 2) := by decide +kernel
theorem dX5_settleAll_25 : decode cX5_settleAll 25 = .ok (.ifnull 9, 3) := by decide +kernel
theorem dX5_settleAll_28 : decode cX5_settleAll 28 = .ok (.aload 5, 2) := by decide +kernel
theorem dX5_settleAll_30 : decode cX5_settleAll 30 = .ok (.iload_n 1, 1) := by decide +kernel
theorem dX5_settleAll_31 : decode cX5_settleAll 31 = .ok (.invokevirtual 216, 3) := by decide +kernel
theorem dX5_settleAll_34 : decode cX5_settleAll 34 = .ok (.iinc 4 1, 3) := by decide +kernel
theorem dX5_settleAll_37 : decode cX5_settleAll 37 = .ok (.goto (-26), 3) := by decide +kernel
theorem dX5_settleAll_40 : decode cX5_settleAll 40 = .ok (.return_, 1) := by decide +kernel
set_option maxRecDepth 20000 in
theorem ggX5_exposureWith_X5_lossOfAll : GoodIn wsX5_exposureWith wsX5_lossOfAll := goodIn_r _ [6, 7, 1, 8, 9, 10, 11, 12, 13, 14, 15, 16, 17, 18, 19, 20, 21, 22, 23, 24, 25, 26, 27, 28, 29, 30, 31, 32, 33, 34, 35, 36, 37, 38, 39, 40, 41, 42, 5, 43, 44, 51, 52, 53, 54, 55, 58, 59, 60, 61, 62, 63, 64, 56, 57, 65, 66, 67] (by decide +kernel) (by decide +kernel)
set_option maxRecDepth 20000 in
theorem gX5_exposureWith_X5_lossOfAll : GoodIn wsX5_exposureWith (wsV RX5 172 RX5 yX5_lossOfAll wsX5_lossOfAll) := goodIn_app (goodIn_of _ (by decide +kernel)) ggX5_exposureWith_X5_lossOfAll
set_option maxRecDepth 20000 in
theorem ggX5_exposureWith_X4_shiftedLoss : GoodIn wsX5_exposureWith wsX4_shiftedLoss := goodIn_r _ [12, 13, 14, 15, 16, 17, 18, 19, 11, 20, 21, 22, 23, 24, 25, 26, 27, 28, 29, 30, 31, 32, 33, 34, 35, 36, 37, 38, 39, 40, 41, 42, 5, 43, 44, 58, 59, 60, 61, 62, 63, 64, 65, 66, 67] (by decide +kernel) (by decide +kernel)
set_option maxRecDepth 20000 in
theorem gX5_exposureWith_X4_shiftedLoss : GoodIn wsX5_exposureWith (wsV RX5 219 RX4 yX4_shiftedLoss wsX4_shiftedLoss) := goodIn_app (goodIn_of _ (by decide +kernel)) ggX5_exposureWith_X4_shiftedLoss
set_option maxRecDepth 20000 in
theorem ggX5_exposureWith_X5_worseLoss : GoodIn wsX5_exposureWith wsX5_worseLoss := goodIn_r _ [47, 48, 49, 15, 50] (by decide +kernel) (by decide +kernel)
set_option maxRecDepth 20000 in
theorem gX5_exposureWith_X5_worseLoss : GoodIn wsX5_exposureWith (va_wsS RX5 176 yX5_worseLoss wsX5_worseLoss) := goodIn_app (goodIn_of _ (by decide +kernel)) ggX5_exposureWith_X5_worseLoss
theorem dX5_exposureWith_0 : decode cX5_exposureWith 0 = .ok (.aload_n 0, 1) := by decide +kernel
theorem dX5_exposureWith_1 : decode cX5_exposureWith 1 = .ok (.getfield 12, 3) := by decide +kernel
theorem dX5_exposureWith_4 : decode cX5_exposureWith 4 = .ok (.getfield 54, 3) := by decide +kernel
theorem dX5_exposureWith_7 : decode cX5_exposureWith 7 = .ok (.istore_n 3, 1) := by decide +kernel
theorem dX5_exposureWith_8 : decode cX5_exposureWith 8 = .ok (.aload_n 0, 1) := by decide +kernel
theorem dX5_exposureWith_9 : decode cX5_exposureWith 9 = .ok (.aload_n 1, 1) := by decide +kernel
theorem dX5_exposureWith_10 : decode cX5_exposureWith 10 = .ok (.bipush 10, 2) := by decide +kernel
theorem dX5_exposureWith_12 : decode cX5_exposureWith 12 = .ok (.invokevirtual 172, 3) := by decide +kernel
theorem dX5_exposureWith_15 : decode cX5_exposureWith 15 = .ok (.aload_n 2, 1) := by decide +kernel
theorem dX5_exposureWith_16 : decode cX5_exposureWith 16 = .ok (.iload_n 3, 1) := by decide +kernel
theorem dX5_exposureWith_17 : decode cX5_exposureWith 17 = .ok (.bipush 10, 2) := by decide +kernel
theorem dX5_exposureWith_19 : decode cX5_exposureWith 19 = .ok (.invokevirtual 219, 3) := by decide +kernel
theorem dX5_exposureWith_22 : decode cX5_exposureWith 22 = .ok (.ladd, 1) := by decide +kernel
theorem dX5_exposureWith_23 : decode cX5_exposureWith 23 = .ok (.aload_n 0, 1) := by decide +kernel
theorem dX5_exposureWith_24 : decode cX5_exposureWith 24 = .ok (.aload_n 1, 1) := by decide +kernel
theorem dX5_exposureWith_25 : decode cX5_exposureWith 25 = .ok (.bipush (-10), 2) := by decide +kernel
theorem dX5_exposureWith_27 : decode cX5_exposureWith 27 = .ok (.invokevirtual 172, 3) := by decide +kernel
theorem dX5_exposureWith_30 : decode cX5_exposureWith 30 = .ok (.aload_n 2, 1) := by decide +kernel
theorem dX5_exposureWith_31 : decode cX5_exposureWith 31 = .ok (.iload_n 3, 1) := by decide +kernel
theorem dX5_exposureWith_32 : decode cX5_exposureWith 32 = .ok (.bipush (-10), 2) := by decide +kernel
theorem dX5_exposureWith_34 : decode cX5_exposureWith 34 = .ok (.invokevirtual 219, 3) := by decide +kernel
theorem dX5_exposureWith_37 : decode cX5_exposureWith 37 = .ok (.ladd, 1) := by decide +kernel
theorem dX5_exposureWith_38 : decode cX5_exposureWith 38 = .ok (.invokestatic 176, 3) := by decide +kernel
theorem dX5_exposureWith_41 : decode cX5_exposureWith 41 = .ok (.lreturn, 1) := by decide +kernel
set_option maxRecDepth 20000 in
theorem ggX5_lossOfAll_X4_shiftedLoss : GoodIn wsX5_lossOfAll wsX4_shiftedLoss := goodIn_r _ [7, 8, 9, 10, 11, 12, 13, 14, 6, 15, 16, 17, 18, 19, 20, 21, 22, 23, 24, 25, 26, 27, 28, 29, 30, 31, 32, 33, 34, 35, 36, 37, 38, 39, 40, 46, 47, 48, 49, 50, 51, 52, 55, 56, 57] (by decide +kernel) (by decide +kernel)
set_option maxRecDepth 20000 in
theorem gX5_lossOfAll_X4_shiftedLoss : GoodIn wsX5_lossOfAll (wsV RX5 219 RX4 yX4_shiftedLoss wsX4_shiftedLoss) := goodIn_app (goodIn_of _ (by decide +kernel)) ggX5_lossOfAll_X4_shiftedLoss
theorem dX5_lossOfAll_0 : decode cX5_lossOfAll 0 = .ok (.lconst 0, 1) := by decide +kernel
theorem dX5_lossOfAll_1 : decode cX5_lossOfAll 1 = .ok (.lstore_n 3, 1) := by decide +kernel
theorem dX5_lossOfAll_2 : decode cX5_lossOfAll 2 = .ok (.aload_n 0, 1) := by decide +kernel
theorem dX5_lossOfAll_3 : decode cX5_lossOfAll 3 = .ok (.getfield 34, 3) := by decide +kernel
theorem dX5_lossOfAll_6 : decode cX5_lossOfAll 6 = .ok (.astore 5, 2) := by decide +kernel
theorem dX5_lossOfAll_8 : decode cX5_lossOfAll 8 = .ok (.aload 5, 2) := by decide +kernel
theorem dX5_lossOfAll_10 : decode cX5_lossOfAll 10 = .ok (.arraylength, 1) := by decide +kernel
theorem dX5_lossOfAll_11 : decode cX5_lossOfAll 11 = .ok (.istore 6, 2) := by decide +kernel
theorem dX5_lossOfAll_13 : decode cX5_lossOfAll 13 = .ok (.iconst 0, 1) := by decide +kernel
theorem dX5_lossOfAll_14 : decode cX5_lossOfAll 14 = .ok (.istore 7, 2) := by decide +kernel
theorem dX5_lossOfAll_16 : decode cX5_lossOfAll 16 = .ok (.iload 7, 2) := by decide +kernel
theorem dX5_lossOfAll_18 : decode cX5_lossOfAll 18 = .ok (.iload 6, 2) := by decide +kernel
theorem dX5_lossOfAll_20 : decode cX5_lossOfAll 20 = .ok (.if_icmp .ge 46, 3) := by decide +kernel
theorem dX5_lossOfAll_23 : decode cX5_lossOfAll 23 = .ok (.aload 5, 2) := by decide +kernel
theorem dX5_lossOfAll_25 : decode cX5_lossOfAll 25 = .ok (.iload 7, 2) := by decide +kernel
theorem dX5_lossOfAll_27 : decode cX5_lossOfAll 27 = .ok (.aaload, 1) := by decide +kernel
theorem dX5_lossOfAll_28 : decode cX5_lossOfAll 28 = .ok (.astore 8, 2) := by decide +kernel
theorem dX5_lossOfAll_30 : decode cX5_lossOfAll 30 = .ok (.aload 8, 2) := by decide +kernel
theorem dX5_lossOfAll_32 : decode cX5_lossOfAll 32 = .ok (.ifnull 28, 3) := by decide +kernel
theorem dX5_lossOfAll_35 : decode cX5_lossOfAll 35 = .ok (.aload 8, 2) := by decide +kernel
theorem dX5_lossOfAll_37 : decode cX5_lossOfAll 37 = .ok (.getfield 117, 3) := by decide +kernel
theorem dX5_lossOfAll_40 : decode cX5_lossOfAll 40 = .ok (.aload_n 1, 1) := by decide +kernel
theorem dX5_lossOfAll_41 : decode cX5_lossOfAll 41 = .ok (.if_acmp .ne 19, 3) := by decide +kernel
theorem dX5_lossOfAll_44 : decode cX5_lossOfAll 44 = .ok (.lload_n 3, 1) := by decide +kernel
theorem dX5_lossOfAll_45 : decode cX5_lossOfAll 45 = .ok (.aload 8, 2) := by decide +kernel
theorem dX5_lossOfAll_47 : decode cX5_lossOfAll 47 = .ok (.aload_n 0, 1) := by decide +kernel
theorem dX5_lossOfAll_48 : decode cX5_lossOfAll 48 = .ok (.getfield 12, 3) := by decide +kernel
theorem dX5_lossOfAll_51 : decode cX5_lossOfAll 51 = .ok (.getfield 54, 3) := by decide +kernel
theorem dX5_lossOfAll_54 : decode cX5_lossOfAll 54 = .ok (.iload_n 2, 1) := by decide +kernel
theorem dX5_lossOfAll_55 : decode cX5_lossOfAll 55 = .ok (.invokevirtual 219, 3) := by decide +kernel
theorem dX5_lossOfAll_58 : decode cX5_lossOfAll 58 = .ok (.ladd, 1) := by decide +kernel
theorem dX5_lossOfAll_59 : decode cX5_lossOfAll 59 = .ok (.lstore_n 3, 1) := by decide +kernel
theorem dX5_lossOfAll_60 : decode cX5_lossOfAll 60 = .ok (.iinc 7 1, 3) := by decide +kernel
theorem dX5_lossOfAll_63 : decode cX5_lossOfAll 63 = .ok (.goto (-47), 3) := by decide +kernel
theorem dX5_lossOfAll_66 : decode cX5_lossOfAll 66 = .ok (.lload_n 3, 1) := by decide +kernel
theorem dX5_lossOfAll_67 : decode cX5_lossOfAll 67 = .ok (.lreturn, 1) := by decide +kernel
theorem dX5_worseLoss_0 : decode cX5_worseLoss 0 = .ok (.lconst 0, 1) := by decide +kernel
theorem dX5_worseLoss_1 : decode cX5_worseLoss 1 = .ok (.lload_n 0, 1) := by decide +kernel
theorem dX5_worseLoss_2 : decode cX5_worseLoss 2 = .ok (.lload_n 2, 1) := by decide +kernel
theorem dX5_worseLoss_3 : decode cX5_worseLoss 3 = .ok (.invokestatic 222, 3) := by decide +kernel
theorem dX5_worseLoss_6 : decode cX5_worseLoss 6 = .ok (.invokestatic 222, 3) := by decide +kernel
theorem dX5_worseLoss_9 : decode cX5_worseLoss 9 = .ok (.lreturn, 1) := by decide +kernel
theorem dX5_homeAmount_0 : decode cX5_homeAmount 0 = .ok (.iload_n 0, 1) := by decide +kernel
theorem dX5_homeAmount_1 : decode cX5_homeAmount 1 = .ok (.i2l, 1) := by decide +kernel
theorem dX5_homeAmount_2 : decode cX5_homeAmount 2 = .ok (.iload_n 1, 1) := by decide +kernel
theorem dX5_homeAmount_3 : decode cX5_homeAmount 3 = .ok (.i2l, 1) := by decide +kernel
theorem dX5_homeAmount_4 : decode cX5_homeAmount 4 = .ok (.lmul, 1) := by decide +kernel
theorem dX5_homeAmount_5 : decode cX5_homeAmount 5 = .ok (.ldc2_w 227, 3) := by decide +kernel
theorem dX5_homeAmount_8 : decode cX5_homeAmount 8 = .ok (.ldiv, 1) := by decide +kernel
theorem dX5_homeAmount_9 : decode cX5_homeAmount 9 = .ok (.lreturn, 1) := by decide +kernel
end
section
theorem dX6_init_0 : decode cX6_init 0 = .ok (.aload_n 0, 1) := by decide +kernel
theorem dX6_init_1 : decode cX6_init 1 = .ok (.invokespecial 1, 3) := by decide +kernel
theorem dX6_init_4 : decode cX6_init 4 = .ok (.aload_n 0, 1) := by decide +kernel
theorem dX6_init_5 : decode cX6_init 5 = .ok (.iconst 4, 1) := by decide +kernel
theorem dX6_init_6 : decode cX6_init 6 = .ok (.newarray .int, 2) := by decide +kernel
theorem dX6_init_8 : decode cX6_init 8 = .ok (.dup, 1) := by decide +kernel
theorem dX6_init_9 : decode cX6_init 9 = .ok (.iconst 0, 1) := by decide +kernel
theorem dX6_init_10 : decode cX6_init 10 = .ok (.sipush 10000, 3) := by decide +kernel
theorem dX6_init_13 : decode cX6_init 13 = .ok (.iastore, 1) := by decide +kernel
theorem dX6_init_14 : decode cX6_init 14 = .ok (.dup, 1) := by decide +kernel
theorem dX6_init_15 : decode cX6_init 15 = .ok (.iconst 1, 1) := by decide +kernel
theorem dX6_init_16 : decode cX6_init 16 = .ok (.sipush 10000, 3) := by decide +kernel
theorem dX6_init_19 : decode cX6_init 19 = .ok (.iastore, 1) := by decide +kernel
theorem dX6_init_20 : decode cX6_init 20 = .ok (.dup, 1) := by decide +kernel
theorem dX6_init_21 : decode cX6_init 21 = .ok (.iconst 2, 1) := by decide +kernel
theorem dX6_init_22 : decode cX6_init 22 = .ok (.sipush 10000, 3) := by decide +kernel
theorem dX6_init_25 : decode cX6_init 25 = .ok (.iastore, 1) := by decide +kernel
theorem dX6_init_26 : decode cX6_init 26 = .ok (.dup, 1) := by decide +kernel
theorem dX6_init_27 : decode cX6_init 27 = .ok (.iconst 3, 1) := by decide +kernel
theorem dX6_init_28 : decode cX6_init 28 = .ok (.sipush 10000, 3) := by decide +kernel
theorem dX6_init_31 : decode cX6_init 31 = .ok (.iastore, 1) := by decide +kernel
theorem dX6_init_32 : decode cX6_init 32 = .ok (.putfield 7, 3) := by decide +kernel
theorem dX6_init_35 : decode cX6_init 35 = .ok (.aload_n 0, 1) := by decide +kernel
theorem dX6_init_36 : decode cX6_init 36 = .ok (.iconst 4, 1) := by decide +kernel
theorem dX6_init_37 : decode cX6_init 37 = .ok (.newarray .int, 2) := by decide +kernel
theorem dX6_init_39 : decode cX6_init 39 = .ok (.putfield 13, 3) := by decide +kernel
theorem dX6_init_42 : decode cX6_init 42 = .ok (.aload_n 0, 1) := by decide +kernel
theorem dX6_init_43 : decode cX6_init 43 = .ok (.iconst 5, 1) := by decide +kernel
theorem dX6_init_44 : decode cX6_init 44 = .ok (.newarray .long, 2) := by decide +kernel
theorem dX6_init_46 : decode cX6_init 46 = .ok (.dup, 1) := by decide +kernel
theorem dX6_init_47 : decode cX6_init 47 = .ok (.iconst 0, 1) := by decide +kernel
theorem dX6_init_48 : decode cX6_init 48 = .ok (.ldc2_w 16, 3) := by decide +kernel
theorem dX6_init_51 : decode cX6_init 51 = .ok (.lastore, 1) := by decide +kernel
theorem dX6_init_52 : decode cX6_init 52 = .ok (.dup, 1) := by decide +kernel
theorem dX6_init_53 : decode cX6_init 53 = .ok (.iconst 1, 1) := by decide +kernel
theorem dX6_init_54 : decode cX6_init 54 = .ok (.ldc2_w 16, 3) := by decide +kernel
theorem dX6_init_57 : decode cX6_init 57 = .ok (.lastore, 1) := by decide +kernel
theorem dX6_init_58 : decode cX6_init 58 = .ok (.dup, 1) := by decide +kernel
theorem dX6_init_59 : decode cX6_init 59 = .ok (.iconst 2, 1) := by decide +kernel
theorem dX6_init_60 : decode cX6_init 60 = .ok (.ldc2_w 16, 3) := by decide +kernel
theorem dX6_init_63 : decode cX6_init 63 = .ok (.lastore, 1) := by decide +kernel
theorem dX6_init_64 : decode cX6_init 64 = .ok (.dup, 1) := by decide +kernel
theorem dX6_init_65 : decode cX6_init 65 = .ok (.iconst 3, 1) := by decide +kernel
theorem dX6_init_66 : decode cX6_init 66 = .ok (.ldc2_w 16, 3) := by decide +kernel
theorem dX6_init_69 : decode cX6_init 69 = .ok (.lastore, 1) := by decide +kernel
theorem dX6_init_70 : decode cX6_init 70 = .ok (.dup, 1) := by decide +kernel
theorem dX6_init_71 : decode cX6_init 71 = .ok (.iconst 4, 1) := by decide +kernel
theorem dX6_init_72 : decode cX6_init 72 = .ok (.ldc2_w 16, 3) := by decide +kernel
theorem dX6_init_75 : decode cX6_init 75 = .ok (.lastore, 1) := by decide +kernel
theorem dX6_init_76 : decode cX6_init 76 = .ok (.putfield 18, 3) := by decide +kernel
theorem dX6_init_79 : decode cX6_init 79 = .ok (.aload_n 0, 1) := by decide +kernel
theorem dX6_init_80 : decode cX6_init 80 = .ok (.sipush 1001, 3) := by decide +kernel
theorem dX6_init_83 : decode cX6_init 83 = .ok (.newarray .boolean, 2) := by decide +kernel
theorem dX6_init_85 : decode cX6_init 85 = .ok (.putfield 22, 3) := by decide +kernel
theorem dX6_init_88 : decode cX6_init 88 = .ok (.aload_n 0, 1) := by decide +kernel
theorem dX6_init_89 : decode cX6_init 89 = .ok (.bipush 20, 2) := by decide +kernel
theorem dX6_init_91 : decode cX6_init 91 = .ok (.newarray .int, 2) := by decide +kernel
theorem dX6_init_93 : decode cX6_init 93 = .ok (.putfield 26, 3) := by decide +kernel
theorem dX6_init_96 : decode cX6_init 96 = .ok (.aload_n 0, 1) := by decide +kernel
theorem dX6_init_97 : decode cX6_init 97 = .ok (.bipush 20, 2) := by decide +kernel
theorem dX6_init_99 : decode cX6_init 99 = .ok (.newarray .int, 2) := by decide +kernel
theorem dX6_init_101 : decode cX6_init 101 = .ok (.putfield 29, 3) := by decide +kernel
theorem dX6_init_104 : decode cX6_init 104 = .ok (.aload_n 0, 1) := by decide +kernel
theorem dX6_init_105 : decode cX6_init 105 = .ok (.bipush 20, 2) := by decide +kernel
theorem dX6_init_107 : decode cX6_init 107 = .ok (.newarray .boolean, 2) := by decide +kernel
theorem dX6_init_109 : decode cX6_init 109 = .ok (.putfield 32, 3) := by decide +kernel
theorem dX6_init_112 : decode cX6_init 112 = .ok (.aload_n 0, 1) := by decide +kernel
theorem dX6_init_113 : decode cX6_init 113 = .ok (.bipush 20, 2) := by decide +kernel
theorem dX6_init_115 : decode cX6_init 115 = .ok (.newarray .int, 2) := by decide +kernel
theorem dX6_init_117 : decode cX6_init 117 = .ok (.putfield 35, 3) := by decide +kernel
theorem dX6_init_120 : decode cX6_init 120 = .ok (.aload_n 0, 1) := by decide +kernel
theorem dX6_init_121 : decode cX6_init 121 = .ok (.bipush 20, 2) := by decide +kernel
theorem dX6_init_123 : decode cX6_init 123 = .ok (.newarray .int, 2) := by decide +kernel
theorem dX6_init_125 : decode cX6_init 125 = .ok (.putfield 38, 3) := by decide +kernel
theorem dX6_init_128 : decode cX6_init 128 = .ok (.aload_n 0, 1) := by decide +kernel
theorem dX6_init_129 : decode cX6_init 129 = .ok (.bipush 20, 2) := by decide +kernel
theorem dX6_init_131 : decode cX6_init 131 = .ok (.newarray .int, 2) := by decide +kernel
theorem dX6_init_133 : decode cX6_init 133 = .ok (.putfield 41, 3) := by decide +kernel
theorem dX6_init_136 : decode cX6_init 136 = .ok (.aload_n 0, 1) := by decide +kernel
theorem dX6_init_137 : decode cX6_init 137 = .ok (.bipush 20, 2) := by decide +kernel
theorem dX6_init_139 : decode cX6_init 139 = .ok (.newarray .int, 2) := by decide +kernel
theorem dX6_init_141 : decode cX6_init 141 = .ok (.putfield 44, 3) := by decide +kernel
theorem dX6_init_144 : decode cX6_init 144 = .ok (.aload_n 0, 1) := by decide +kernel
theorem dX6_init_145 : decode cX6_init 145 = .ok (.sipush 25750, 3) := by decide +kernel
theorem dX6_init_148 : decode cX6_init 148 = .ok (.newarray .long, 2) := by decide +kernel
theorem dX6_init_150 : decode cX6_init 150 = .ok (.putfield 47, 3) := by decide +kernel
theorem dX6_init_153 : decode cX6_init 153 = .ok (.aload_n 0, 1) := by decide +kernel
theorem dX6_init_154 : decode cX6_init 154 = .ok (.bipush 25, 2) := by decide +kernel
theorem dX6_init_156 : decode cX6_init 156 = .ok (.newarray .long, 2) := by decide +kernel
theorem dX6_init_158 : decode cX6_init 158 = .ok (.putfield 50, 3) := by decide +kernel
theorem dX6_init_161 : decode cX6_init 161 = .ok (.return_, 1) := by decide +kernel
theorem dX6_thrown_0 : decode cX6_thrown 0 = .ok (.aload_n 0, 1) := by decide +kernel
theorem dX6_thrown_1 : decode cX6_thrown 1 = .ok (.getfield 53, 3) := by decide +kernel
theorem dX6_thrown_4 : decode cX6_thrown 4 = .ok (.ireturn, 1) := by decide +kernel
theorem dX6_in_0 : decode cX6_in 0 = .ok (.iload_n 0, 1) := by decide +kernel
theorem dX6_in_1 : decode cX6_in 1 = .ok (.iload_n 1, 1) := by decide +kernel
theorem dX6_in_2 : decode cX6_in 2 = .ok (.if_icmp .lt 12, 3) := by decide +kernel
theorem dX6_in_5 : decode cX6_in 5 = .ok (.iload_n 0, 1) := by decide +kernel
theorem dX6_in_6 : decode cX6_in 6 = .ok (.iload_n 2, 1) := by decide +kernel
theorem dX6_in_7 : decode cX6_in 7 = .ok (.if_icmp .gt 7, 3) := by decide +kernel
theorem dX6_in_10 : decode cX6_in 10 = .ok (.iconst 1, 1) := by decide +kernel
theorem dX6_in_11 : decode cX6_in 11 = .ok (.goto 4, 3) := by decide +kernel
theorem dX6_in_14 : decode cX6_in 14 = .ok (.iconst 0, 1) := by decide +kernel
theorem dX6_in_15 : decode cX6_in 15 = .ok (.ireturn, 1) := by decide +kernel
set_option maxRecDepth 20000 in
theorem ggX6_isCustomer_X6_in : GoodIn wsX6_isCustomer wsX6_in := goodIn_r _ [4] (by decide +kernel) (by decide +kernel)
set_option maxRecDepth 20000 in
theorem gX6_isCustomer_X6_in : GoodIn wsX6_isCustomer (va_wsS RX6 57 yX6_in wsX6_in) := goodIn_app (goodIn_of _ (by decide +kernel)) ggX6_isCustomer_X6_in
theorem dX6_isCustomer_0 : decode cX6_isCustomer 0 = .ok (.iload_n 0, 1) := by decide +kernel
theorem dX6_isCustomer_1 : decode cX6_isCustomer 1 = .ok (.iconst 0, 1) := by decide +kernel
theorem dX6_isCustomer_2 : decode cX6_isCustomer 2 = .ok (.iconst 4, 1) := by decide +kernel
theorem dX6_isCustomer_3 : decode cX6_isCustomer 3 = .ok (.invokestatic 57, 3) := by decide +kernel
theorem dX6_isCustomer_6 : decode cX6_isCustomer 6 = .ok (.ireturn, 1) := by decide +kernel
set_option maxRecDepth 20000 in
theorem ggX6_isCurrency_X6_in : GoodIn wsX6_isCurrency wsX6_in := goodIn_r _ [4] (by decide +kernel) (by decide +kernel)
set_option maxRecDepth 20000 in
theorem gX6_isCurrency_X6_in : GoodIn wsX6_isCurrency (va_wsS RX6 57 yX6_in wsX6_in) := goodIn_app (goodIn_of _ (by decide +kernel)) ggX6_isCurrency_X6_in
theorem dX6_isCurrency_0 : decode cX6_isCurrency 0 = .ok (.iload_n 0, 1) := by decide +kernel
theorem dX6_isCurrency_1 : decode cX6_isCurrency 1 = .ok (.iconst 0, 1) := by decide +kernel
theorem dX6_isCurrency_2 : decode cX6_isCurrency 2 = .ok (.iconst 3, 1) := by decide +kernel
theorem dX6_isCurrency_3 : decode cX6_isCurrency 3 = .ok (.invokestatic 57, 3) := by decide +kernel
theorem dX6_isCurrency_6 : decode cX6_isCurrency 6 = .ok (.ireturn, 1) := by decide +kernel
set_option maxRecDepth 20000 in
theorem ggX6_isDeal_X6_in : GoodIn wsX6_isDeal wsX6_in := goodIn_r _ [5] (by decide +kernel) (by decide +kernel)
set_option maxRecDepth 20000 in
theorem gX6_isDeal_X6_in : GoodIn wsX6_isDeal (va_wsS RX6 57 yX6_in wsX6_in) := goodIn_app (goodIn_of _ (by decide +kernel)) ggX6_isDeal_X6_in
theorem dX6_isDeal_0 : decode cX6_isDeal 0 = .ok (.iload_n 1, 1) := by decide +kernel
theorem dX6_isDeal_1 : decode cX6_isDeal 1 = .ok (.iconst 0, 1) := by decide +kernel
theorem dX6_isDeal_2 : decode cX6_isDeal 2 = .ok (.aload_n 0, 1) := by decide +kernel
theorem dX6_isDeal_3 : decode cX6_isDeal 3 = .ok (.getfield 61, 3) := by decide +kernel
theorem dX6_isDeal_6 : decode cX6_isDeal 6 = .ok (.iconst 1, 1) := by decide +kernel
theorem dX6_isDeal_7 : decode cX6_isDeal 7 = .ok (.isub, 1) := by decide +kernel
theorem dX6_isDeal_8 : decode cX6_isDeal 8 = .ok (.invokestatic 57, 3) := by decide +kernel
theorem dX6_isDeal_11 : decode cX6_isDeal 11 = .ok (.ireturn, 1) := by decide +kernel
theorem dX6_atLeastOne_0 : decode cX6_atLeastOne 0 = .ok (.iload_n 0, 1) := by decide +kernel
theorem dX6_atLeastOne_1 : decode cX6_atLeastOne 1 = .ok (.iconst 1, 1) := by decide +kernel
theorem dX6_atLeastOne_2 : decode cX6_atLeastOne 2 = .ok (.if_icmp .ge 7, 3) := by decide +kernel
theorem dX6_atLeastOne_5 : decode cX6_atLeastOne 5 = .ok (.iconst 1, 1) := by decide +kernel
theorem dX6_atLeastOne_6 : decode cX6_atLeastOne 6 = .ok (.goto 4, 3) := by decide +kernel
theorem dX6_atLeastOne_9 : decode cX6_atLeastOne 9 = .ok (.iload_n 0, 1) := by decide +kernel
theorem dX6_atLeastOne_10 : decode cX6_atLeastOne 10 = .ok (.ireturn, 1) := by decide +kernel
set_option maxRecDepth 20000 in
theorem ggX6_forwardFor_X6_atLeastOne : GoodIn wsX6_forwardFor wsX6_atLeastOne := goodIn_r _ [7] (by decide +kernel) (by decide +kernel)
set_option maxRecDepth 20000 in
theorem gX6_forwardFor_X6_atLeastOne : GoodIn wsX6_forwardFor (va_wsS RX6 67 yX6_atLeastOne wsX6_atLeastOne) := goodIn_app (goodIn_of _ (by decide +kernel)) ggX6_forwardFor_X6_atLeastOne
theorem dX6_forwardFor_0 : decode cX6_forwardFor 0 = .ok (.aload_n 0, 1) := by decide +kernel
theorem dX6_forwardFor_1 : decode cX6_forwardFor 1 = .ok (.getfield 7, 3) := by decide +kernel
theorem dX6_forwardFor_4 : decode cX6_forwardFor 4 = .ok (.iload_n 1, 1) := by decide +kernel
theorem dX6_forwardFor_5 : decode cX6_forwardFor 5 = .ok (.iaload, 1) := by decide +kernel
theorem dX6_forwardFor_6 : decode cX6_forwardFor 6 = .ok (.aload_n 0, 1) := by decide +kernel
theorem dX6_forwardFor_7 : decode cX6_forwardFor 7 = .ok (.getfield 13, 3) := by decide +kernel
theorem dX6_forwardFor_10 : decode cX6_forwardFor 10 = .ok (.iload_n 1, 1) := by decide +kernel
theorem dX6_forwardFor_11 : decode cX6_forwardFor 11 = .ok (.iaload, 1) := by decide +kernel
theorem dX6_forwardFor_12 : decode cX6_forwardFor 12 = .ok (.iload_n 2, 1) := by decide +kernel
theorem dX6_forwardFor_13 : decode cX6_forwardFor 13 = .ok (.aload_n 0, 1) := by decide +kernel
theorem dX6_forwardFor_14 : decode cX6_forwardFor 14 = .ok (.getfield 64, 3) := by decide +kernel
theorem dX6_forwardFor_17 : decode cX6_forwardFor 17 = .ok (.isub, 1) := by decide +kernel
theorem dX6_forwardFor_18 : decode cX6_forwardFor 18 = .ok (.imul, 1) := by decide +kernel
theorem dX6_forwardFor_19 : decode cX6_forwardFor 19 = .ok (.iadd, 1) := by decide +kernel
theorem dX6_forwardFor_20 : decode cX6_forwardFor 20 = .ok (.invokestatic 67, 3) := by decide +kernel
theorem dX6_forwardFor_23 : decode cX6_forwardFor 23 = .ok (.ireturn, 1) := by decide +kernel
theorem dX6_home_0 : decode cX6_home 0 = .ok (.iload_n 0, 1) := by decide +kernel
theorem dX6_home_1 : decode cX6_home 1 = .ok (.i2l, 1) := by decide +kernel
theorem dX6_home_2 : decode cX6_home 2 = .ok (.iload_n 1, 1) := by decide +kernel
theorem dX6_home_3 : decode cX6_home 3 = .ok (.i2l, 1) := by decide +kernel
theorem dX6_home_4 : decode cX6_home 4 = .ok (.lmul, 1) := by decide +kernel
theorem dX6_home_5 : decode cX6_home 5 = .ok (.ldc2_w 71, 3) := by decide +kernel
theorem dX6_home_8 : decode cX6_home 8 = .ok (.ldiv, 1) := by decide +kernel
theorem dX6_home_9 : decode cX6_home 9 = .ok (.lreturn, 1) := by decide +kernel
set_option maxRecDepth 20000 in
theorem ggX6_setRate_X6_isCurrency : GoodIn wsX6_setRate wsX6_isCurrency := goodIn_r _ [7, 8, 9, 6, 10] (by decide +kernel) (by decide +kernel)
set_option maxRecDepth 20000 in
theorem gX6_setRate_X6_isCurrency : GoodIn wsX6_setRate (va_wsS RX6 73 yX6_isCurrency wsX6_isCurrency) := goodIn_app (goodIn_of _ (by decide +kernel)) ggX6_setRate_X6_isCurrency
set_option maxRecDepth 20000 in
theorem ggX6_setRate_X6_in : GoodIn wsX6_setRate wsX6_in := goodIn_r _ [10] (by decide +kernel) (by decide +kernel)
set_option maxRecDepth 20000 in
theorem gX6_setRate_X6_in : GoodIn wsX6_setRate (va_wsS RX6 57 yX6_in wsX6_in) := goodIn_app (goodIn_of _ (by decide +kernel)) ggX6_setRate_X6_in
theorem dX6_setRate_0 : decode cX6_setRate 0 = .ok (.aload_n 0, 1) := by decide +kernel
theorem dX6_setRate_1 : decode cX6_setRate 1 = .ok (.iload_n 1, 1) := by decide +kernel
theorem dX6_setRate_2 : decode cX6_setRate 2 = .ok (.invokestatic 73, 3) := by decide +kernel
theorem dX6_setRate_5 : decode cX6_setRate 5 = .ok (.ifCond .ne 7, 3) := by decide +kernel
theorem dX6_setRate_8 : decode cX6_setRate 8 = .ok (.iconst 1, 1) := by decide +kernel
theorem dX6_setRate_9 : decode cX6_setRate 9 = .ok (.goto 18, 3) := by decide +kernel
theorem dX6_setRate_12 : decode cX6_setRate 12 = .ok (.iload_n 2, 1) := by decide +kernel
theorem dX6_setRate_13 : decode cX6_setRate 13 = .ok (.iconst 1, 1) := by decide +kernel
theorem dX6_setRate_14 : decode cX6_setRate 14 = .ok (.ldc 77, 2) := by decide +kernel
theorem dX6_setRate_16 : decode cX6_setRate 16 = .ok (.invokestatic 57, 3) := by decide +kernel
theorem dX6_setRate_19 : decode cX6_setRate 19 = .ok (.ifCond .eq 7, 3) := by decide +kernel
theorem dX6_setRate_22 : decode cX6_setRate 22 = .ok (.iconst 0, 1) := by decide +kernel
theorem dX6_setRate_23 : decode cX6_setRate 23 = .ok (.goto 4, 3) := by decide +kernel
theorem dX6_setRate_26 : decode cX6_setRate 26 = .ok (.iconst 2, 1) := by decide +kernel
theorem dX6_setRate_27 : decode cX6_setRate 27 = .ok (.putfield 53, 3) := by decide +kernel
theorem dX6_setRate_30 : decode cX6_setRate 30 = .ok (.aload_n 0, 1) := by decide +kernel
theorem dX6_setRate_31 : decode cX6_setRate 31 = .ok (.getfield 53, 3) := by decide +kernel
theorem dX6_setRate_34 : decode cX6_setRate 34 = .ok (.ifCond .le 5, 3) := by decide +kernel
theorem dX6_setRate_37 : decode cX6_setRate 37 = .ok (.iconst 0, 1) := by decide +kernel
theorem dX6_setRate_38 : decode cX6_setRate 38 = .ok (.ireturn, 1) := by decide +kernel
theorem dX6_setRate_39 : decode cX6_setRate 39 = .ok (.aload_n 0, 1) := by decide +kernel
theorem dX6_setRate_40 : decode cX6_setRate 40 = .ok (.getfield 7, 3) := by decide +kernel
theorem dX6_setRate_43 : decode cX6_setRate 43 = .ok (.iload_n 1, 1) := by decide +kernel
theorem dX6_setRate_44 : decode cX6_setRate 44 = .ok (.iaload, 1) := by decide +kernel
theorem dX6_setRate_45 : decode cX6_setRate 45 = .ok (.istore_n 3, 1) := by decide +kernel
theorem dX6_setRate_46 : decode cX6_setRate 46 = .ok (.aload_n 0, 1) := by decide +kernel
theorem dX6_setRate_47 : decode cX6_setRate 47 = .ok (.getfield 7, 3) := by decide +kernel
theorem dX6_setRate_50 : decode cX6_setRate 50 = .ok (.iload_n 1, 1) := by decide +kernel
theorem dX6_setRate_51 : decode cX6_setRate 51 = .ok (.iload_n 2, 1) := by decide +kernel
theorem dX6_setRate_52 : decode cX6_setRate 52 = .ok (.iastore, 1) := by decide +kernel
theorem dX6_setRate_53 : decode cX6_setRate 53 = .ok (.iload_n 3, 1) := by decide +kernel
theorem dX6_setRate_54 : decode cX6_setRate 54 = .ok (.ireturn, 1) := by decide +kernel
set_option maxRecDepth 20000 in
theorem ggX6_setPoints_X6_isCurrency : GoodIn wsX6_setPoints wsX6_isCurrency := goodIn_r _ [6, 7, 8, 5, 9] (by decide +kernel) (by decide +kernel)
set_option maxRecDepth 20000 in
theorem gX6_setPoints_X6_isCurrency : GoodIn wsX6_setPoints (va_wsS RX6 73 yX6_isCurrency wsX6_isCurrency) := goodIn_app (goodIn_of _ (by decide +kernel)) ggX6_setPoints_X6_isCurrency
set_option maxRecDepth 20000 in
theorem ggX6_setPoints_X6_in : GoodIn wsX6_setPoints wsX6_in := goodIn_r _ [9] (by decide +kernel) (by decide +kernel)
set_option maxRecDepth 20000 in
theorem gX6_setPoints_X6_in : GoodIn wsX6_setPoints (va_wsS RX6 57 yX6_in wsX6_in) := goodIn_app (goodIn_of _ (by decide +kernel)) ggX6_setPoints_X6_in
theorem dX6_setPoints_0 : decode cX6_setPoints 0 = .ok (.aload_n 0, 1) := by decide +kernel
theorem dX6_setPoints_1 : decode cX6_setPoints 1 = .ok (.iload_n 1, 1) := by decide +kernel
theorem dX6_setPoints_2 : decode cX6_setPoints 2 = .ok (.invokestatic 73, 3) := by decide +kernel
theorem dX6_setPoints_5 : decode cX6_setPoints 5 = .ok (.ifCond .ne 7, 3) := by decide +kernel
theorem dX6_setPoints_8 : decode cX6_setPoints 8 = .ok (.iconst 1, 1) := by decide +kernel
theorem dX6_setPoints_9 : decode cX6_setPoints 9 = .ok (.goto 19, 3) := by decide +kernel
theorem dX6_setPoints_12 : decode cX6_setPoints 12 = .ok (.iload_n 2, 1) := by decide +kernel
theorem dX6_setPoints_13 : decode cX6_setPoints 13 = .ok (.bipush (-50), 2) := by decide +kernel
theorem dX6_setPoints_15 : decode cX6_setPoints 15 = .ok (.bipush 50, 2) := by decide +kernel
theorem dX6_setPoints_17 : decode cX6_setPoints 17 = .ok (.invokestatic 57, 3) := by decide +kernel
theorem dX6_setPoints_20 : decode cX6_setPoints 20 = .ok (.ifCond .eq 7, 3) := by decide +kernel
theorem dX6_setPoints_23 : decode cX6_setPoints 23 = .ok (.iconst 0, 1) := by decide +kernel
theorem dX6_setPoints_24 : decode cX6_setPoints 24 = .ok (.goto 4, 3) := by decide +kernel
theorem dX6_setPoints_27 : decode cX6_setPoints 27 = .ok (.iconst 2, 1) := by decide +kernel
theorem dX6_setPoints_28 : decode cX6_setPoints 28 = .ok (.putfield 53, 3) := by decide +kernel
theorem dX6_setPoints_31 : decode cX6_setPoints 31 = .ok (.aload_n 0, 1) := by decide +kernel
theorem dX6_setPoints_32 : decode cX6_setPoints 32 = .ok (.getfield 53, 3) := by decide +kernel
theorem dX6_setPoints_35 : decode cX6_setPoints 35 = .ok (.ifCond .le 5, 3) := by decide +kernel
theorem dX6_setPoints_38 : decode cX6_setPoints 38 = .ok (.iconst 0, 1) := by decide +kernel
theorem dX6_setPoints_39 : decode cX6_setPoints 39 = .ok (.ireturn, 1) := by decide +kernel
theorem dX6_setPoints_40 : decode cX6_setPoints 40 = .ok (.aload_n 0, 1) := by decide +kernel
theorem dX6_setPoints_41 : decode cX6_setPoints 41 = .ok (.getfield 13, 3) := by decide +kernel
theorem dX6_setPoints_44 : decode cX6_setPoints 44 = .ok (.iload_n 1, 1) := by decide +kernel
theorem dX6_setPoints_45 : decode cX6_setPoints 45 = .ok (.iaload, 1) := by decide +kernel
theorem dX6_setPoints_46 : decode cX6_setPoints 46 = .ok (.istore_n 3, 1) := by decide +kernel
theorem dX6_setPoints_47 : decode cX6_setPoints 47 = .ok (.aload_n 0, 1) := by decide +kernel
theorem dX6_setPoints_48 : decode cX6_setPoints 48 = .ok (.getfield 13, 3) := by decide +kernel
theorem dX6_setPoints_51 : decode cX6_setPoints 51 = .ok (.iload_n 1, 1) := by decide +kernel
theorem dX6_setPoints_52 : decode cX6_setPoints 52 = .ok (.iload_n 2, 1) := by decide +kernel
theorem dX6_setPoints_53 : decode cX6_setPoints 53 = .ok (.iastore, 1) := by decide +kernel
theorem dX6_setPoints_54 : decode cX6_setPoints 54 = .ok (.iload_n 3, 1) := by decide +kernel
theorem dX6_setPoints_55 : decode cX6_setPoints 55 = .ok (.ireturn, 1) := by decide +kernel
set_option maxRecDepth 20000 in
theorem ggX6_toggleHoliday_X6_in : GoodIn wsX6_toggleHoliday wsX6_in := goodIn_r _ [7] (by decide +kernel) (by decide +kernel)
set_option maxRecDepth 20000 in
theorem gX6_toggleHoliday_X6_in : GoodIn wsX6_toggleHoliday (va_wsS RX6 57 yX6_in wsX6_in) := goodIn_app (goodIn_of _ (by decide +kernel)) ggX6_toggleHoliday_X6_in
theorem dX6_toggleHoliday_0 : decode cX6_toggleHoliday 0 = .ok (.aload_n 0, 1) := by decide +kernel
theorem dX6_toggleHoliday_1 : decode cX6_toggleHoliday 1 = .ok (.iload_n 1, 1) := by decide +kernel
theorem dX6_toggleHoliday_2 : decode cX6_toggleHoliday 2 = .ok (.iconst 1, 1) := by decide +kernel
theorem dX6_toggleHoliday_3 : decode cX6_toggleHoliday 3 = .ok (.sipush 1000, 3) := by decide +kernel
theorem dX6_toggleHoliday_6 : decode cX6_toggleHoliday 6 = .ok (.invokestatic 57, 3) := by decide +kernel
theorem dX6_toggleHoliday_9 : decode cX6_toggleHoliday 9 = .ok (.ifCond .ne 7, 3) := by decide +kernel
theorem dX6_toggleHoliday_12 : decode cX6_toggleHoliday 12 = .ok (.iconst 1, 1) := by decide +kernel
theorem dX6_toggleHoliday_13 : decode cX6_toggleHoliday 13 = .ok (.goto 16, 3) := by decide +kernel
theorem dX6_toggleHoliday_16 : decode cX6_toggleHoliday 16 = .ok (.iload_n 1, 1) := by decide +kernel
theorem dX6_toggleHoliday_17 : decode cX6_toggleHoliday 17 = .ok (.aload_n 0, 1) := by decide +kernel
theorem dX6_toggleHoliday_18 : decode cX6_toggleHoliday 18 = .ok (.getfield 64, 3) := by decide +kernel
theorem dX6_toggleHoliday_21 : decode cX6_toggleHoliday 21 = .ok (.if_icmp .le 7, 3) := by decide +kernel
theorem dX6_toggleHoliday_24 : decode cX6_toggleHoliday 24 = .ok (.iconst 0, 1) := by decide +kernel
theorem dX6_toggleHoliday_25 : decode cX6_toggleHoliday 25 = .ok (.goto 4, 3) := by decide +kernel
theorem dX6_toggleHoliday_28 : decode cX6_toggleHoliday 28 = .ok (.iconst 2, 1) := by decide +kernel
theorem dX6_toggleHoliday_29 : decode cX6_toggleHoliday 29 = .ok (.putfield 53, 3) := by decide +kernel
theorem dX6_toggleHoliday_32 : decode cX6_toggleHoliday 32 = .ok (.aload_n 0, 1) := by decide +kernel
theorem dX6_toggleHoliday_33 : decode cX6_toggleHoliday 33 = .ok (.getfield 53, 3) := by decide +kernel
theorem dX6_toggleHoliday_36 : decode cX6_toggleHoliday 36 = .ok (.ifCond .le 5, 3) := by decide +kernel
theorem dX6_toggleHoliday_39 : decode cX6_toggleHoliday 39 = .ok (.iconst 0, 1) := by decide +kernel
theorem dX6_toggleHoliday_40 : decode cX6_toggleHoliday 40 = .ok (.ireturn, 1) := by decide +kernel
theorem dX6_toggleHoliday_41 : decode cX6_toggleHoliday 41 = .ok (.aload_n 0, 1) := by decide +kernel
theorem dX6_toggleHoliday_42 : decode cX6_toggleHoliday 42 = .ok (.getfield 22, 3) := by decide +kernel
theorem dX6_toggleHoliday_45 : decode cX6_toggleHoliday 45 = .ok (.iload_n 1, 1) := by decide +kernel
theorem dX6_toggleHoliday_46 : decode cX6_toggleHoliday 46 = .ok (.aload_n 0, 1) := by decide +kernel
theorem dX6_toggleHoliday_47 : decode cX6_toggleHoliday 47 = .ok (.getfield 22, 3) := by decide +kernel
theorem dX6_toggleHoliday_50 : decode cX6_toggleHoliday 50 = .ok (.iload_n 1, 1) := by decide +kernel
theorem dX6_toggleHoliday_51 : decode cX6_toggleHoliday 51 = .ok (.baload, 1) := by decide +kernel
theorem dX6_toggleHoliday_52 : decode cX6_toggleHoliday 52 = .ok (.ifCond .ne 7, 3) := by decide +kernel
theorem dX6_toggleHoliday_55 : decode cX6_toggleHoliday 55 = .ok (.iconst 1, 1) := by decide +kernel
theorem dX6_toggleHoliday_56 : decode cX6_toggleHoliday 56 = .ok (.goto 4, 3) := by decide +kernel
theorem dX6_toggleHoliday_59 : decode cX6_toggleHoliday 59 = .ok (.iconst 0, 1) := by decide +kernel
theorem dX6_toggleHoliday_60 : decode cX6_toggleHoliday 60 = .ok (.bastore, 1) := by decide +kernel
theorem dX6_toggleHoliday_61 : decode cX6_toggleHoliday 61 = .ok (.aload_n 0, 1) := by decide +kernel
theorem dX6_toggleHoliday_62 : decode cX6_toggleHoliday 62 = .ok (.getfield 22, 3) := by decide +kernel
theorem dX6_toggleHoliday_65 : decode cX6_toggleHoliday 65 = .ok (.iload_n 1, 1) := by decide +kernel
theorem dX6_toggleHoliday_66 : decode cX6_toggleHoliday 66 = .ok (.baload, 1) := by decide +kernel
theorem dX6_toggleHoliday_67 : decode cX6_toggleHoliday 67 = .ok (.ireturn, 1) := by decide +kernel
set_option maxRecDepth 20000 in
theorem ggX6_setLimit_X6_isCustomer : GoodIn wsX6_setLimit wsX6_isCustomer := goodIn_r _ [7, 8, 9, 6, 10] (by decide +kernel) (by decide +kernel)
set_option maxRecDepth 20000 in
theorem gX6_setLimit_X6_isCustomer : GoodIn wsX6_setLimit (va_wsS RX6 78 yX6_isCustomer wsX6_isCustomer) := goodIn_app (goodIn_of _ (by decide +kernel)) ggX6_setLimit_X6_isCustomer
set_option maxRecDepth 20000 in
theorem ggX6_setLimit_X6_in : GoodIn wsX6_setLimit wsX6_in := goodIn_r _ [10] (by decide +kernel) (by decide +kernel)
set_option maxRecDepth 20000 in
theorem gX6_setLimit_X6_in : GoodIn wsX6_setLimit (va_wsS RX6 57 yX6_in wsX6_in) := goodIn_app (goodIn_of _ (by decide +kernel)) ggX6_setLimit_X6_in
theorem dX6_setLimit_0 : decode cX6_setLimit 0 = .ok (.aload_n 0, 1) := by decide +kernel
theorem dX6_setLimit_1 : decode cX6_setLimit 1 = .ok (.iload_n 1, 1) := by decide +kernel
theorem dX6_setLimit_2 : decode cX6_setLimit 2 = .ok (.invokestatic 78, 3) := by decide +kernel
theorem dX6_setLimit_5 : decode cX6_setLimit 5 = .ok (.ifCond .ne 7, 3) := by decide +kernel
theorem dX6_setLimit_8 : decode cX6_setLimit 8 = .ok (.iconst 1, 1) := by decide +kernel
theorem dX6_setLimit_9 : decode cX6_setLimit 9 = .ok (.goto 18, 3) := by decide +kernel
theorem dX6_setLimit_12 : decode cX6_setLimit 12 = .ok (.iload_n 2, 1) := by decide +kernel
theorem dX6_setLimit_13 : decode cX6_setLimit 13 = .ok (.iconst 0, 1) := by decide +kernel
theorem dX6_setLimit_14 : decode cX6_setLimit 14 = .ok (.ldc 81, 2) := by decide +kernel
theorem dX6_setLimit_16 : decode cX6_setLimit 16 = .ok (.invokestatic 57, 3) := by decide +kernel
theorem dX6_setLimit_19 : decode cX6_setLimit 19 = .ok (.ifCond .eq 7, 3) := by decide +kernel
theorem dX6_setLimit_22 : decode cX6_setLimit 22 = .ok (.iconst 0, 1) := by decide +kernel
theorem dX6_setLimit_23 : decode cX6_setLimit 23 = .ok (.goto 4, 3) := by decide +kernel
theorem dX6_setLimit_26 : decode cX6_setLimit 26 = .ok (.iconst 2, 1) := by decide +kernel
theorem dX6_setLimit_27 : decode cX6_setLimit 27 = .ok (.putfield 53, 3) := by decide +kernel
theorem dX6_setLimit_30 : decode cX6_setLimit 30 = .ok (.aload_n 0, 1) := by decide +kernel
theorem dX6_setLimit_31 : decode cX6_setLimit 31 = .ok (.getfield 53, 3) := by decide +kernel
theorem dX6_setLimit_34 : decode cX6_setLimit 34 = .ok (.ifCond .le 5, 3) := by decide +kernel
theorem dX6_setLimit_37 : decode cX6_setLimit 37 = .ok (.iconst 0, 1) := by decide +kernel
theorem dX6_setLimit_38 : decode cX6_setLimit 38 = .ok (.ireturn, 1) := by decide +kernel
theorem dX6_setLimit_39 : decode cX6_setLimit 39 = .ok (.aload_n 0, 1) := by decide +kernel
theorem dX6_setLimit_40 : decode cX6_setLimit 40 = .ok (.getfield 18, 3) := by decide +kernel
theorem dX6_setLimit_43 : decode cX6_setLimit 43 = .ok (.iload_n 1, 1) := by decide +kernel
theorem dX6_setLimit_44 : decode cX6_setLimit 44 = .ok (.laload, 1) := by decide +kernel
theorem dX6_setLimit_45 : decode cX6_setLimit 45 = .ok (.lstore_n 3, 1) := by decide +kernel
theorem dX6_setLimit_46 : decode cX6_setLimit 46 = .ok (.aload_n 0, 1) := by decide +kernel
theorem dX6_setLimit_47 : decode cX6_setLimit 47 = .ok (.getfield 18, 3) := by decide +kernel
theorem dX6_setLimit_50 : decode cX6_setLimit 50 = .ok (.iload_n 1, 1) := by decide +kernel
theorem dX6_setLimit_51 : decode cX6_setLimit 51 = .ok (.iload_n 2, 1) := by decide +kernel
theorem dX6_setLimit_52 : decode cX6_setLimit 52 = .ok (.i2l, 1) := by decide +kernel
theorem dX6_setLimit_53 : decode cX6_setLimit 53 = .ok (.lastore, 1) := by decide +kernel
theorem dX6_setLimit_54 : decode cX6_setLimit 54 = .ok (.lload_n 3, 1) := by decide +kernel
theorem dX6_setLimit_55 : decode cX6_setLimit 55 = .ok (.l2i, 1) := by decide +kernel
theorem dX6_setLimit_56 : decode cX6_setLimit 56 = .ok (.ireturn, 1) := by decide +kernel
set_option maxRecDepth 20000 in
theorem ggX6_forward_X6_isCurrency : GoodIn wsX6_forward wsX6_isCurrency := goodIn_r _ [6, 7, 8, 5, 9] (by decide +kernel) (by decide +kernel)
set_option maxRecDepth 20000 in
theorem gX6_forward_X6_isCurrency : GoodIn wsX6_forward (va_wsS RX6 73 yX6_isCurrency wsX6_isCurrency) := goodIn_app (goodIn_of _ (by decide +kernel)) ggX6_forward_X6_isCurrency
set_option maxRecDepth 20000 in
theorem ggX6_forward_X6_in : GoodIn wsX6_forward wsX6_in := goodIn_r _ [9] (by decide +kernel) (by decide +kernel)
set_option maxRecDepth 20000 in
theorem gX6_forward_X6_in : GoodIn wsX6_forward (va_wsS RX6 57 yX6_in wsX6_in) := goodIn_app (goodIn_of _ (by decide +kernel)) ggX6_forward_X6_in
set_option maxRecDepth 20000 in
theorem ggX6_forward_X6_forwardFor : GoodIn wsX6_forward wsX6_forwardFor := goodIn_r _ [13, 14, 15, 2, 16, 17, 5, 18, 19, 20, 21, 22, 23, 24, 25, 26, 27, 28, 29, 30, 31, 32, 33, 34] (by decide +kernel) (by decide +kernel)
set_option maxRecDepth 20000 in
theorem gX6_forward_X6_forwardFor : GoodIn wsX6_forward (wsV RX6 82 RX6 yX6_forwardFor wsX6_forwardFor) := goodIn_app (goodIn_of _ (by decide +kernel)) ggX6_forward_X6_forwardFor
theorem dX6_forward_0 : decode cX6_forward 0 = .ok (.aload_n 0, 1) := by decide +kernel
theorem dX6_forward_1 : decode cX6_forward 1 = .ok (.iload_n 1, 1) := by decide +kernel
theorem dX6_forward_2 : decode cX6_forward 2 = .ok (.invokestatic 73, 3) := by decide +kernel
theorem dX6_forward_5 : decode cX6_forward 5 = .ok (.ifCond .ne 7, 3) := by decide +kernel
theorem dX6_forward_8 : decode cX6_forward 8 = .ok (.iconst 1, 1) := by decide +kernel
theorem dX6_forward_9 : decode cX6_forward 9 = .ok (.goto 19, 3) := by decide +kernel
theorem dX6_forward_12 : decode cX6_forward 12 = .ok (.iload_n 2, 1) := by decide +kernel
theorem dX6_forward_13 : decode cX6_forward 13 = .ok (.iconst 0, 1) := by decide +kernel
theorem dX6_forward_14 : decode cX6_forward 14 = .ok (.sipush 400, 3) := by decide +kernel
theorem dX6_forward_17 : decode cX6_forward 17 = .ok (.invokestatic 57, 3) := by decide +kernel
theorem dX6_forward_20 : decode cX6_forward 20 = .ok (.ifCond .eq 7, 3) := by decide +kernel
theorem dX6_forward_23 : decode cX6_forward 23 = .ok (.iconst 0, 1) := by decide +kernel
theorem dX6_forward_24 : decode cX6_forward 24 = .ok (.goto 4, 3) := by decide +kernel
theorem dX6_forward_27 : decode cX6_forward 27 = .ok (.iconst 2, 1) := by decide +kernel
theorem dX6_forward_28 : decode cX6_forward 28 = .ok (.putfield 53, 3) := by decide +kernel
theorem dX6_forward_31 : decode cX6_forward 31 = .ok (.aload_n 0, 1) := by decide +kernel
theorem dX6_forward_32 : decode cX6_forward 32 = .ok (.getfield 53, 3) := by decide +kernel
theorem dX6_forward_35 : decode cX6_forward 35 = .ok (.ifCond .le 7, 3) := by decide +kernel
theorem dX6_forward_38 : decode cX6_forward 38 = .ok (.iconst 0, 1) := by decide +kernel
theorem dX6_forward_39 : decode cX6_forward 39 = .ok (.goto 14, 3) := by decide +kernel
theorem dX6_forward_42 : decode cX6_forward 42 = .ok (.aload_n 0, 1) := by decide +kernel
theorem dX6_forward_43 : decode cX6_forward 43 = .ok (.iload_n 1, 1) := by decide +kernel
theorem dX6_forward_44 : decode cX6_forward 44 = .ok (.aload_n 0, 1) := by decide +kernel
theorem dX6_forward_45 : decode cX6_forward 45 = .ok (.getfield 64, 3) := by decide +kernel
theorem dX6_forward_48 : decode cX6_forward 48 = .ok (.iload_n 2, 1) := by decide +kernel
theorem dX6_forward_49 : decode cX6_forward 49 = .ok (.iadd, 1) := by decide +kernel
theorem dX6_forward_50 : decode cX6_forward 50 = .ok (.invokevirtual 82, 3) := by decide +kernel
theorem dX6_forward_53 : decode cX6_forward 53 = .ok (.ireturn, 1) := by decide +kernel
set_option maxRecDepth 20000 in
theorem ggX6_gainOf_X6_home : GoodIn wsX6_gainOf wsX6_home := goodIn_r _ [6, 7] (by decide +kernel) (by decide +kernel)
set_option maxRecDepth 20000 in
theorem gX6_gainOf_X6_home : GoodIn wsX6_gainOf (va_wsS RX6 86 yX6_home wsX6_home) := goodIn_app (goodIn_of _ (by decide +kernel)) ggX6_gainOf_X6_home
theorem dX6_gainOf_0 : decode cX6_gainOf 0 = .ok (.iload_n 2, 1) := by decide +kernel
theorem dX6_gainOf_1 : decode cX6_gainOf 1 = .ok (.iload_n 3, 1) := by decide +kernel
theorem dX6_gainOf_2 : decode cX6_gainOf 2 = .ok (.invokestatic 86, 3) := by decide +kernel
theorem dX6_gainOf_5 : decode cX6_gainOf 5 = .ok (.iload_n 2, 1) := by decide +kernel
theorem dX6_gainOf_6 : decode cX6_gainOf 6 = .ok (.aload_n 0, 1) := by decide +kernel
theorem dX6_gainOf_7 : decode cX6_gainOf 7 = .ok (.getfield 44, 3) := by decide +kernel
theorem dX6_gainOf_10 : decode cX6_gainOf 10 = .ok (.iload_n 1, 1) := by decide +kernel
theorem dX6_gainOf_11 : decode cX6_gainOf 11 = .ok (.iaload, 1) := by decide +kernel
theorem dX6_gainOf_12 : decode cX6_gainOf 12 = .ok (.invokestatic 86, 3) := by decide +kernel
theorem dX6_gainOf_15 : decode cX6_gainOf 15 = .ok (.lsub, 1) := by decide +kernel
theorem dX6_gainOf_16 : decode cX6_gainOf 16 = .ok (.lstore 4, 2) := by decide +kernel
theorem dX6_gainOf_18 : decode cX6_gainOf 18 = .ok (.aload_n 0, 1) := by decide +kernel
theorem dX6_gainOf_19 : decode cX6_gainOf 19 = .ok (.getfield 32, 3) := by decide +kernel
theorem dX6_gainOf_22 : decode cX6_gainOf 22 = .ok (.iload_n 1, 1) := by decide +kernel
theorem dX6_gainOf_23 : decode cX6_gainOf 23 = .ok (.baload, 1) := by decide +kernel
theorem dX6_gainOf_24 : decode cX6_gainOf 24 = .ok (.ifCond .eq 8, 3) := by decide +kernel
theorem dX6_gainOf_27 : decode cX6_gainOf 27 = .ok (.lload 4, 2) := by decide +kernel
theorem dX6_gainOf_29 : decode cX6_gainOf 29 = .ok (.goto 6, 3) := by decide +kernel
theorem dX6_gainOf_32 : decode cX6_gainOf 32 = .ok (.lload 4, 2) := by decide +kernel
theorem dX6_gainOf_34 : decode cX6_gainOf 34 = .ok (.lneg, 1) := by decide +kernel
theorem dX6_gainOf_35 : decode cX6_gainOf 35 = .ok (.lreturn, 1) := by decide +kernel
set_option maxRecDepth 20000 in
theorem ggX6_gainNow_X6_forwardFor : GoodIn wsX6_gainNow wsX6_forwardFor := goodIn_r _ [8, 9, 10, 11, 12, 13, 7, 14, 25, 26, 27, 28, 29, 30, 31, 32, 33, 34, 35, 36, 37, 38, 39, 40] (by decide +kernel) (by decide +kernel)
set_option maxRecDepth 20000 in
theorem gX6_gainNow_X6_forwardFor : GoodIn wsX6_gainNow (wsV RX6 82 RX6 yX6_forwardFor wsX6_forwardFor) := goodIn_app (goodIn_of _ (by decide +kernel)) ggX6_gainNow_X6_forwardFor
set_option maxRecDepth 20000 in
theorem ggX6_gainNow_X6_gainOf : GoodIn wsX6_gainNow wsX6_gainOf := goodIn_r _ [18, 19, 20, 21, 22, 7, 23, 24, 25, 26, 27, 28, 29, 30, 31, 32, 33, 34, 35, 36, 37, 38, 39, 40] (by decide +kernel) (by decide +kernel)
set_option maxRecDepth 20000 in
theorem gX6_gainNow_X6_gainOf : GoodIn wsX6_gainNow (wsV RX6 90 RX6 yX6_gainOf wsX6_gainOf) := goodIn_app (goodIn_of _ (by decide +kernel)) ggX6_gainNow_X6_gainOf
theorem dX6_gainNow_0 : decode cX6_gainNow 0 = .ok (.aload_n 0, 1) := by decide +kernel
theorem dX6_gainNow_1 : decode cX6_gainNow 1 = .ok (.iload_n 1, 1) := by decide +kernel
theorem dX6_gainNow_2 : decode cX6_gainNow 2 = .ok (.aload_n 0, 1) := by decide +kernel
theorem dX6_gainNow_3 : decode cX6_gainNow 3 = .ok (.getfield 35, 3) := by decide +kernel
theorem dX6_gainNow_6 : decode cX6_gainNow 6 = .ok (.iload_n 1, 1) := by decide +kernel
theorem dX6_gainNow_7 : decode cX6_gainNow 7 = .ok (.iaload, 1) := by decide +kernel
theorem dX6_gainNow_8 : decode cX6_gainNow 8 = .ok (.aload_n 0, 1) := by decide +kernel
theorem dX6_gainNow_9 : decode cX6_gainNow 9 = .ok (.aload_n 0, 1) := by decide +kernel
theorem dX6_gainNow_10 : decode cX6_gainNow 10 = .ok (.getfield 29, 3) := by decide +kernel
theorem dX6_gainNow_13 : decode cX6_gainNow 13 = .ok (.iload_n 1, 1) := by decide +kernel
theorem dX6_gainNow_14 : decode cX6_gainNow 14 = .ok (.iaload, 1) := by decide +kernel
theorem dX6_gainNow_15 : decode cX6_gainNow 15 = .ok (.aload_n 0, 1) := by decide +kernel
theorem dX6_gainNow_16 : decode cX6_gainNow 16 = .ok (.getfield 41, 3) := by decide +kernel
theorem dX6_gainNow_19 : decode cX6_gainNow 19 = .ok (.iload_n 1, 1) := by decide +kernel
theorem dX6_gainNow_20 : decode cX6_gainNow 20 = .ok (.iaload, 1) := by decide +kernel
theorem dX6_gainNow_21 : decode cX6_gainNow 21 = .ok (.invokevirtual 82, 3) := by decide +kernel
theorem dX6_gainNow_24 : decode cX6_gainNow 24 = .ok (.invokevirtual 90, 3) := by decide +kernel
theorem dX6_gainNow_27 : decode cX6_gainNow 27 = .ok (.lreturn, 1) := by decide +kernel
set_option maxRecDepth 20000 in
theorem ggX6_valueAt_X6_forwardFor : GoodIn wsX6_valueAt wsX6_forwardFor := goodIn_r _ [10, 11, 12, 13, 14, 15, 9, 16, 27, 28, 29, 30, 31, 32, 33, 34, 35, 36, 37, 38, 39, 40, 41, 42] (by decide +kernel) (by decide +kernel)
set_option maxRecDepth 20000 in
theorem gX6_valueAt_X6_forwardFor : GoodIn wsX6_valueAt (wsV RX6 82 RX6 yX6_forwardFor wsX6_forwardFor) := goodIn_app (goodIn_of _ (by decide +kernel)) ggX6_valueAt_X6_forwardFor
set_option maxRecDepth 20000 in
theorem ggX6_valueAt_X6_atLeastOne : GoodIn wsX6_valueAt wsX6_atLeastOne := goodIn_r _ [16] (by decide +kernel) (by decide +kernel)
set_option maxRecDepth 20000 in
theorem gX6_valueAt_X6_atLeastOne : GoodIn wsX6_valueAt (va_wsS RX6 67 yX6_atLeastOne wsX6_atLeastOne) := goodIn_app (goodIn_of _ (by decide +kernel)) ggX6_valueAt_X6_atLeastOne
set_option maxRecDepth 20000 in
theorem ggX6_valueAt_X6_gainOf : GoodIn wsX6_valueAt wsX6_gainOf := goodIn_r _ [20, 21, 22, 23, 24, 9, 25, 26, 27, 28, 29, 30, 31, 32, 33, 34, 35, 36, 37, 38, 39, 40, 41, 42] (by decide +kernel) (by decide +kernel)
set_option maxRecDepth 20000 in
theorem gX6_valueAt_X6_gainOf : GoodIn wsX6_valueAt (wsV RX6 90 RX6 yX6_gainOf wsX6_gainOf) := goodIn_app (goodIn_of _ (by decide +kernel)) ggX6_valueAt_X6_gainOf
theorem dX6_valueAt_0 : decode cX6_valueAt 0 = .ok (.lconst 0, 1) := by decide +kernel
theorem dX6_valueAt_1 : decode cX6_valueAt 1 = .ok (.lstore_n 3, 1) := by decide +kernel
theorem dX6_valueAt_2 : decode cX6_valueAt 2 = .ok (.iconst 0, 1) := by decide +kernel
theorem dX6_valueAt_3 : decode cX6_valueAt 3 = .ok (.istore 5, 2) := by decide +kernel
theorem dX6_valueAt_5 : decode cX6_valueAt 5 = .ok (.iload 5, 2) := by decide +kernel
theorem dX6_valueAt_7 : decode cX6_valueAt 7 = .ok (.aload_n 0, 1) := by decide +kernel
theorem dX6_valueAt_8 : decode cX6_valueAt 8 = .ok (.getfield 61, 3) := by decide +kernel
theorem dX6_valueAt_11 : decode cX6_valueAt 11 = .ok (.if_icmp .ge 73, 3) := by decide +kernel
theorem dX6_valueAt_14 : decode cX6_valueAt 14 = .ok (.aload_n 0, 1) := by decide +kernel
theorem dX6_valueAt_15 : decode cX6_valueAt 15 = .ok (.aload_n 0, 1) := by decide +kernel
theorem dX6_valueAt_16 : decode cX6_valueAt 16 = .ok (.getfield 29, 3) := by decide +kernel
theorem dX6_valueAt_19 : decode cX6_valueAt 19 = .ok (.iload 5, 2) := by decide +kernel
theorem dX6_valueAt_21 : decode cX6_valueAt 21 = .ok (.iaload, 1) := by decide +kernel
theorem dX6_valueAt_22 : decode cX6_valueAt 22 = .ok (.aload_n 0, 1) := by decide +kernel
theorem dX6_valueAt_23 : decode cX6_valueAt 23 = .ok (.getfield 41, 3) := by decide +kernel
theorem dX6_valueAt_26 : decode cX6_valueAt 26 = .ok (.iload 5, 2) := by decide +kernel
theorem dX6_valueAt_28 : decode cX6_valueAt 28 = .ok (.iaload, 1) := by decide +kernel
theorem dX6_valueAt_29 : decode cX6_valueAt 29 = .ok (.invokevirtual 82, 3) := by decide +kernel
theorem dX6_valueAt_32 : decode cX6_valueAt 32 = .ok (.bipush 100, 2) := by decide +kernel
theorem dX6_valueAt_34 : decode cX6_valueAt 34 = .ok (.iload_n 2, 1) := by decide +kernel
theorem dX6_valueAt_35 : decode cX6_valueAt 35 = .ok (.iadd, 1) := by decide +kernel
theorem dX6_valueAt_36 : decode cX6_valueAt 36 = .ok (.imul, 1) := by decide +kernel
theorem dX6_valueAt_37 : decode cX6_valueAt 37 = .ok (.bipush 100, 2) := by decide +kernel
theorem dX6_valueAt_39 : decode cX6_valueAt 39 = .ok (.idiv, 1) := by decide +kernel
theorem dX6_valueAt_40 : decode cX6_valueAt 40 = .ok (.invokestatic 67, 3) := by decide +kernel
theorem dX6_valueAt_43 : decode cX6_valueAt 43 = .ok (.istore 6, 2) := by decide +kernel
theorem dX6_valueAt_45 : decode cX6_valueAt 45 = .ok (.lload_n 3, 1) := by decide +kernel
theorem dX6_valueAt_46 : decode cX6_valueAt 46 = .ok (.aload_n 0, 1) := by decide +kernel
theorem dX6_valueAt_47 : decode cX6_valueAt 47 = .ok (.getfield 26, 3) := by decide +kernel
theorem dX6_valueAt_50 : decode cX6_valueAt 50 = .ok (.iload 5, 2) := by decide +kernel
theorem dX6_valueAt_52 : decode cX6_valueAt 52 = .ok (.iaload, 1) := by decide +kernel
theorem dX6_valueAt_53 : decode cX6_valueAt 53 = .ok (.iload_n 1, 1) := by decide +kernel
theorem dX6_valueAt_54 : decode cX6_valueAt 54 = .ok (.if_icmp .ne 21, 3) := by decide +kernel
theorem dX6_valueAt_57 : decode cX6_valueAt 57 = .ok (.aload_n 0, 1) := by decide +kernel
theorem dX6_valueAt_58 : decode cX6_valueAt 58 = .ok (.iload 5, 2) := by decide +kernel
theorem dX6_valueAt_60 : decode cX6_valueAt 60 = .ok (.aload_n 0, 1) := by decide +kernel
theorem dX6_valueAt_61 : decode cX6_valueAt 61 = .ok (.getfield 35, 3) := by decide +kernel
theorem dX6_valueAt_64 : decode cX6_valueAt 64 = .ok (.iload 5, 2) := by decide +kernel
theorem dX6_valueAt_66 : decode cX6_valueAt 66 = .ok (.iaload, 1) := by decide +kernel
theorem dX6_valueAt_67 : decode cX6_valueAt 67 = .ok (.iload 6, 2) := by decide +kernel
theorem dX6_valueAt_69 : decode cX6_valueAt 69 = .ok (.invokevirtual 90, 3) := by decide +kernel
theorem dX6_valueAt_72 : decode cX6_valueAt 72 = .ok (.goto 4, 3) := by decide +kernel
theorem dX6_valueAt_75 : decode cX6_valueAt 75 = .ok (.lconst 0, 1) := by decide +kernel
theorem dX6_valueAt_76 : decode cX6_valueAt 76 = .ok (.ladd, 1) := by decide +kernel
theorem dX6_valueAt_77 : decode cX6_valueAt 77 = .ok (.lstore_n 3, 1) := by decide +kernel
theorem dX6_valueAt_78 : decode cX6_valueAt 78 = .ok (.iinc 5 1, 3) := by decide +kernel
theorem dX6_valueAt_81 : decode cX6_valueAt 81 = .ok (.goto (-76), 3) := by decide +kernel
theorem dX6_valueAt_84 : decode cX6_valueAt 84 = .ok (.lload_n 3, 1) := by decide +kernel
theorem dX6_valueAt_85 : decode cX6_valueAt 85 = .ok (.lreturn, 1) := by decide +kernel
set_option maxRecDepth 20000 in
theorem ggX6_exposureOf_X6_valueAt : GoodIn wsX6_exposureOf wsX6_valueAt := goodIn_r _ [5, 6, 7, 8, 9, 10, 11, 12, 13, 4, 14, 15, 16, 17, 18, 19, 20, 21, 22, 23, 24, 25, 26, 27, 28, 29, 30, 31, 32, 33, 34, 35, 36, 37, 38, 39, 40, 41, 42, 43, 44, 45, 46] (by decide +kernel) (by decide +kernel)
set_option maxRecDepth 20000 in
theorem gX6_exposureOf_X6_valueAt : GoodIn wsX6_exposureOf (wsV RX6 94 RX6 yX6_valueAt wsX6_valueAt) := goodIn_app (goodIn_of _ (by decide +kernel)) ggX6_exposureOf_X6_valueAt
theorem dX6_exposureOf_0 : decode cX6_exposureOf 0 = .ok (.aload_n 0, 1) := by decide +kernel
theorem dX6_exposureOf_1 : decode cX6_exposureOf 1 = .ok (.iload_n 1, 1) := by decide +kernel
theorem dX6_exposureOf_2 : decode cX6_exposureOf 2 = .ok (.bipush 10, 2) := by decide +kernel
theorem dX6_exposureOf_4 : decode cX6_exposureOf 4 = .ok (.invokevirtual 94, 3) := by decide +kernel
theorem dX6_exposureOf_7 : decode cX6_exposureOf 7 = .ok (.lneg, 1) := by decide +kernel
theorem dX6_exposureOf_8 : decode cX6_exposureOf 8 = .ok (.lstore_n 2, 1) := by decide +kernel
theorem dX6_exposureOf_9 : decode cX6_exposureOf 9 = .ok (.aload_n 0, 1) := by decide +kernel
theorem dX6_exposureOf_10 : decode cX6_exposureOf 10 = .ok (.iload_n 1, 1) := by decide +kernel
theorem dX6_exposureOf_11 : decode cX6_exposureOf 11 = .ok (.bipush (-10), 2) := by decide +kernel
theorem dX6_exposureOf_13 : decode cX6_exposureOf 13 = .ok (.invokevirtual 94, 3) := by decide +kernel
theorem dX6_exposureOf_16 : decode cX6_exposureOf 16 = .ok (.lneg, 1) := by decide +kernel
theorem dX6_exposureOf_17 : decode cX6_exposureOf 17 = .ok (.lstore 4, 2) := by decide +kernel
theorem dX6_exposureOf_19 : decode cX6_exposureOf 19 = .ok (.lload_n 2, 1) := by decide +kernel
theorem dX6_exposureOf_20 : decode cX6_exposureOf 20 = .ok (.lload 4, 2) := by decide +kernel
theorem dX6_exposureOf_22 : decode cX6_exposureOf 22 = .ok (.lcmp, 1) := by decide +kernel
theorem dX6_exposureOf_23 : decode cX6_exposureOf 23 = .ok (.ifCond .le 7, 3) := by decide +kernel
theorem dX6_exposureOf_26 : decode cX6_exposureOf 26 = .ok (.lload_n 2, 1) := by decide +kernel
theorem dX6_exposureOf_27 : decode cX6_exposureOf 27 = .ok (.goto 5, 3) := by decide +kernel
theorem dX6_exposureOf_30 : decode cX6_exposureOf 30 = .ok (.lload 4, 2) := by decide +kernel
theorem dX6_exposureOf_32 : decode cX6_exposureOf 32 = .ok (.lstore 6, 2) := by decide +kernel
theorem dX6_exposureOf_34 : decode cX6_exposureOf 34 = .ok (.lload 6, 2) := by decide +kernel
theorem dX6_exposureOf_36 : decode cX6_exposureOf 36 = .ok (.lconst 0, 1) := by decide +kernel
theorem dX6_exposureOf_37 : decode cX6_exposureOf 37 = .ok (.lcmp, 1) := by decide +kernel
theorem dX6_exposureOf_38 : decode cX6_exposureOf 38 = .ok (.ifCond .ge 7, 3) := by decide +kernel
theorem dX6_exposureOf_41 : decode cX6_exposureOf 41 = .ok (.lconst 0, 1) := by decide +kernel
theorem dX6_exposureOf_42 : decode cX6_exposureOf 42 = .ok (.goto 5, 3) := by decide +kernel
theorem dX6_exposureOf_45 : decode cX6_exposureOf 45 = .ok (.lload 6, 2) := by decide +kernel
theorem dX6_exposureOf_47 : decode cX6_exposureOf 47 = .ok (.lreturn, 1) := by decide +kernel
theorem dX6_isBusiness_0 : decode cX6_isBusiness 0 = .ok (.iload_n 1, 1) := by decide +kernel
theorem dX6_isBusiness_1 : decode cX6_isBusiness 1 = .ok (.bipush 7, 2) := by decide +kernel
theorem dX6_isBusiness_3 : decode cX6_isBusiness 3 = .ok (.irem, 1) := by decide +kernel
theorem dX6_isBusiness_4 : decode cX6_isBusiness 4 = .ok (.iconst 5, 1) := by decide +kernel
theorem dX6_isBusiness_5 : decode cX6_isBusiness 5 = .ok (.if_icmp .ge 23, 3) := by decide +kernel
theorem dX6_isBusiness_8 : decode cX6_isBusiness 8 = .ok (.iload_n 1, 1) := by decide +kernel
theorem dX6_isBusiness_9 : decode cX6_isBusiness 9 = .ok (.sipush 1000, 3) := by decide +kernel
theorem dX6_isBusiness_12 : decode cX6_isBusiness 12 = .ok (.if_icmp .gt 12, 3) := by decide +kernel
theorem dX6_isBusiness_15 : decode cX6_isBusiness 15 = .ok (.aload_n 0, 1) := by decide +kernel
theorem dX6_isBusiness_16 : decode cX6_isBusiness 16 = .ok (.getfield 22, 3) := by decide +kernel
theorem dX6_isBusiness_19 : decode cX6_isBusiness 19 = .ok (.iload_n 1, 1) := by decide +kernel
theorem dX6_isBusiness_20 : decode cX6_isBusiness 20 = .ok (.baload, 1) := by decide +kernel
theorem dX6_isBusiness_21 : decode cX6_isBusiness 21 = .ok (.ifCond .ne 7, 3) := by decide +kernel
theorem dX6_isBusiness_24 : decode cX6_isBusiness 24 = .ok (.iconst 1, 1) := by decide +kernel
theorem dX6_isBusiness_25 : decode cX6_isBusiness 25 = .ok (.goto 4, 3) := by decide +kernel
theorem dX6_isBusiness_28 : decode cX6_isBusiness 28 = .ok (.iconst 0, 1) := by decide +kernel
theorem dX6_isBusiness_29 : decode cX6_isBusiness 29 = .ok (.ireturn, 1) := by decide +kernel
set_option maxRecDepth 20000 in
theorem ggX6_settles_X6_isBusiness : GoodIn wsX6_settles wsX6_isBusiness := goodIn_r _ [6, 7, 8, 9, 10, 11, 12, 13, 14, 15, 16, 17, 18, 19, 20, 21, 22, 23] (by decide +kernel) (by decide +kernel)
set_option maxRecDepth 20000 in
theorem gX6_settles_X6_isBusiness : GoodIn wsX6_settles (wsV RX6 97 RX6 yX6_isBusiness wsX6_isBusiness) := goodIn_app (goodIn_of _ (by decide +kernel)) ggX6_settles_X6_isBusiness
theorem dX6_settles_0 : decode cX6_settles 0 = .ok (.aload_n 0, 1) := by decide +kernel
theorem dX6_settles_1 : decode cX6_settles 1 = .ok (.getfield 64, 3) := by decide +kernel
theorem dX6_settles_4 : decode cX6_settles 4 = .ok (.iconst 1, 1) := by decide +kernel
theorem dX6_settles_5 : decode cX6_settles 5 = .ok (.iadd, 1) := by decide +kernel
theorem dX6_settles_6 : decode cX6_settles 6 = .ok (.istore_n 1, 1) := by decide +kernel
theorem dX6_settles_7 : decode cX6_settles 7 = .ok (.aload_n 0, 1) := by decide +kernel
theorem dX6_settles_8 : decode cX6_settles 8 = .ok (.iload_n 1, 1) := by decide +kernel
theorem dX6_settles_9 : decode cX6_settles 9 = .ok (.invokevirtual 97, 3) := by decide +kernel
theorem dX6_settles_12 : decode cX6_settles 12 = .ok (.ifCond .ne 9, 3) := by decide +kernel
theorem dX6_settles_15 : decode cX6_settles 15 = .ok (.iinc 1 1, 3) := by decide +kernel
theorem dX6_settles_18 : decode cX6_settles 18 = .ok (.goto (-11), 3) := by decide +kernel
theorem dX6_settles_21 : decode cX6_settles 21 = .ok (.iload_n 1, 1) := by decide +kernel
theorem dX6_settles_22 : decode cX6_settles 22 = .ok (.ireturn, 1) := by decide +kernel
set_option maxRecDepth 20000 in
theorem ggX6_owes_X6_settles : GoodIn wsX6_owes wsX6_settles := goodIn_r _ [6, 7, 8, 9, 10, 5, 11, 12, 13, 14, 15, 16, 17, 18, 19, 20, 21, 22, 23, 24, 25, 26, 27, 28] (by decide +kernel) (by decide +kernel)
set_option maxRecDepth 20000 in
theorem gX6_owes_X6_settles : GoodIn wsX6_owes (wsV RX6 100 RX6 yX6_settles wsX6_settles) := goodIn_app (goodIn_of _ (by decide +kernel)) ggX6_owes_X6_settles
theorem dX6_owes_0 : decode cX6_owes 0 = .ok (.aload_n 0, 1) := by decide +kernel
theorem dX6_owes_1 : decode cX6_owes 1 = .ok (.getfield 47, 3) := by decide +kernel
theorem dX6_owes_4 : decode cX6_owes 4 = .ok (.bipush 25, 2) := by decide +kernel
theorem dX6_owes_6 : decode cX6_owes 6 = .ok (.aload_n 0, 1) := by decide +kernel
theorem dX6_owes_7 : decode cX6_owes 7 = .ok (.invokevirtual 100, 3) := by decide +kernel
theorem dX6_owes_10 : decode cX6_owes 10 = .ok (.imul, 1) := by decide +kernel
theorem dX6_owes_11 : decode cX6_owes 11 = .ok (.iconst 5, 1) := by decide +kernel
theorem dX6_owes_12 : decode cX6_owes 12 = .ok (.iload_n 1, 1) := by decide +kernel
theorem dX6_owes_13 : decode cX6_owes 13 = .ok (.imul, 1) := by decide +kernel
theorem dX6_owes_14 : decode cX6_owes 14 = .ok (.iadd, 1) := by decide +kernel
theorem dX6_owes_15 : decode cX6_owes 15 = .ok (.iload_n 2, 1) := by decide +kernel
theorem dX6_owes_16 : decode cX6_owes 16 = .ok (.iadd, 1) := by decide +kernel
theorem dX6_owes_17 : decode cX6_owes 17 = .ok (.dup2, 1) := by decide +kernel
theorem dX6_owes_18 : decode cX6_owes 18 = .ok (.laload, 1) := by decide +kernel
theorem dX6_owes_19 : decode cX6_owes 19 = .ok (.lload_n 3, 1) := by decide +kernel
theorem dX6_owes_20 : decode cX6_owes 20 = .ok (.ladd, 1) := by decide +kernel
theorem dX6_owes_21 : decode cX6_owes 21 = .ok (.lastore, 1) := by decide +kernel
theorem dX6_owes_22 : decode cX6_owes 22 = .ok (.return_, 1) := by decide +kernel
set_option maxRecDepth 20000 in
theorem ggX6_deal_X6_isCustomer : GoodIn wsX6_deal wsX6_isCustomer := goodIn_r _ [16, 17, 18, 15, 19] (by decide +kernel) (by decide +kernel)
set_option maxRecDepth 20000 in
theorem gX6_deal_X6_isCustomer : GoodIn wsX6_deal (va_wsS RX6 78 yX6_isCustomer wsX6_isCustomer) := goodIn_app (goodIn_of _ (by decide +kernel)) ggX6_deal_X6_isCustomer
set_option maxRecDepth 20000 in
theorem ggX6_deal_X6_isCurrency : GoodIn wsX6_deal wsX6_isCurrency := goodIn_r _ [22, 17, 18, 15, 19] (by decide +kernel) (by decide +kernel)
set_option maxRecDepth 20000 in
theorem gX6_deal_X6_isCurrency : GoodIn wsX6_deal (va_wsS RX6 73 yX6_isCurrency wsX6_isCurrency) := goodIn_app (goodIn_of _ (by decide +kernel)) ggX6_deal_X6_isCurrency
set_option maxRecDepth 20000 in
theorem ggX6_deal_X6_in : GoodIn wsX6_deal wsX6_in := goodIn_r _ [19] (by decide +kernel) (by decide +kernel)
set_option maxRecDepth 20000 in
theorem gX6_deal_X6_in : GoodIn wsX6_deal (va_wsS RX6 57 yX6_in wsX6_in) := goodIn_app (goodIn_of _ (by decide +kernel)) ggX6_deal_X6_in
set_option maxRecDepth 20000 in
theorem ggX6_deal_X6_forwardFor : GoodIn wsX6_deal wsX6_forwardFor := goodIn_r _ [26, 27, 28, 9, 29, 30, 15, 31, 48, 49, 50, 51, 52, 53, 54, 55, 56, 57, 58, 59, 60, 61, 62, 63] (by decide +kernel) (by decide +kernel)
set_option maxRecDepth 20000 in
theorem gX6_deal_X6_forwardFor : GoodIn wsX6_deal (wsV RX6 82 RX6 yX6_forwardFor wsX6_forwardFor) := goodIn_app (goodIn_of _ (by decide +kernel)) ggX6_deal_X6_forwardFor
set_option maxRecDepth 20000 in
theorem ggX6_deal_X6_exposureOf : GoodIn wsX6_deal wsX6_exposureOf := goodIn_r _ [35, 36, 37, 38, 15, 39, 2, 5, 10, 4, 7, 23, 24, 25, 26, 27, 28, 9, 29, 30, 31, 40, 41, 42, 43, 11, 6, 44, 45, 46, 47, 48, 49, 50, 51, 52, 53, 54, 55, 56, 57, 58, 59, 60, 61, 62, 63] (by decide +kernel) (by decide +kernel)
set_option maxRecDepth 20000 in
theorem gX6_deal_X6_exposureOf : GoodIn wsX6_deal (wsV RX6 105 RX6 yX6_exposureOf wsX6_exposureOf) := goodIn_app (goodIn_of _ (by decide +kernel)) ggX6_deal_X6_exposureOf
theorem dX6_deal_0 : decode cX6_deal 0 = .ok (.iload_n 1, 1) := by decide +kernel
theorem dX6_deal_1 : decode cX6_deal 1 = .ok (.invokestatic 78, 3) := by decide +kernel
theorem dX6_deal_4 : decode cX6_deal 4 = .ok (.ifCond .eq 14, 3) := by decide +kernel
theorem dX6_deal_7 : decode cX6_deal 7 = .ok (.iload_n 2, 1) := by decide +kernel
theorem dX6_deal_8 : decode cX6_deal 8 = .ok (.invokestatic 73, 3) := by decide +kernel
theorem dX6_deal_11 : decode cX6_deal 11 = .ok (.ifCond .eq 7, 3) := by decide +kernel
theorem dX6_deal_14 : decode cX6_deal 14 = .ok (.iconst 1, 1) := by decide +kernel
theorem dX6_deal_15 : decode cX6_deal 15 = .ok (.goto 4, 3) := by decide +kernel
theorem dX6_deal_18 : decode cX6_deal 18 = .ok (.iconst 0, 1) := by decide +kernel
theorem dX6_deal_19 : decode cX6_deal 19 = .ok (.istore 7, 2) := by decide +kernel
theorem dX6_deal_21 : decode cX6_deal 21 = .ok (.iload 4, 2) := by decide +kernel
theorem dX6_deal_23 : decode cX6_deal 23 = .ok (.iconst 1, 1) := by decide +kernel
theorem dX6_deal_24 : decode cX6_deal 24 = .ok (.ldc 104, 2) := by decide +kernel
theorem dX6_deal_26 : decode cX6_deal 26 = .ok (.invokestatic 57, 3) := by decide +kernel
theorem dX6_deal_29 : decode cX6_deal 29 = .ok (.ifCond .eq 32, 3) := by decide +kernel
theorem dX6_deal_32 : decode cX6_deal 32 = .ok (.iload 5, 2) := by decide +kernel
theorem dX6_deal_34 : decode cX6_deal 34 = .ok (.iconst 0, 1) := by decide +kernel
theorem dX6_deal_35 : decode cX6_deal 35 = .ok (.sipush 400, 3) := by decide +kernel
theorem dX6_deal_38 : decode cX6_deal 38 = .ok (.invokestatic 57, 3) := by decide +kernel
theorem dX6_deal_41 : decode cX6_deal 41 = .ok (.ifCond .eq 20, 3) := by decide +kernel
theorem dX6_deal_44 : decode cX6_deal 44 = .ok (.iload 6, 2) := by decide +kernel
theorem dX6_deal_46 : decode cX6_deal 46 = .ok (.iload 5, 2) := by decide +kernel
theorem dX6_deal_48 : decode cX6_deal 48 = .ok (.sipush 400, 3) := by decide +kernel
theorem dX6_deal_51 : decode cX6_deal 51 = .ok (.invokestatic 57, 3) := by decide +kernel
theorem dX6_deal_54 : decode cX6_deal 54 = .ok (.ifCond .eq 7, 3) := by decide +kernel
theorem dX6_deal_57 : decode cX6_deal 57 = .ok (.iconst 1, 1) := by decide +kernel
theorem dX6_deal_58 : decode cX6_deal 58 = .ok (.goto 4, 3) := by decide +kernel
theorem dX6_deal_61 : decode cX6_deal 61 = .ok (.iconst 0, 1) := by decide +kernel
theorem dX6_deal_62 : decode cX6_deal 62 = .ok (.istore 8, 2) := by decide +kernel
theorem dX6_deal_64 : decode cX6_deal 64 = .ok (.aload_n 0, 1) := by decide +kernel
theorem dX6_deal_65 : decode cX6_deal 65 = .ok (.iload 7, 2) := by decide +kernel
theorem dX6_deal_67 : decode cX6_deal 67 = .ok (.ifCond .ne 7, 3) := by decide +kernel
theorem dX6_deal_70 : decode cX6_deal 70 = .ok (.iconst 1, 1) := by decide +kernel
theorem dX6_deal_71 : decode cX6_deal 71 = .ok (.goto 26, 3) := by decide +kernel
theorem dX6_deal_74 : decode cX6_deal 74 = .ok (.iload 8, 2) := by decide +kernel
theorem dX6_deal_76 : decode cX6_deal 76 = .ok (.ifCond .ne 7, 3) := by decide +kernel
theorem dX6_deal_79 : decode cX6_deal 79 = .ok (.iconst 2, 1) := by decide +kernel
theorem dX6_deal_80 : decode cX6_deal 80 = .ok (.goto 17, 3) := by decide +kernel
theorem dX6_deal_83 : decode cX6_deal 83 = .ok (.aload_n 0, 1) := by decide +kernel
theorem dX6_deal_84 : decode cX6_deal 84 = .ok (.getfield 61, 3) := by decide +kernel
theorem dX6_deal_87 : decode cX6_deal 87 = .ok (.bipush 20, 2) := by decide +kernel
theorem dX6_deal_89 : decode cX6_deal 89 = .ok (.if_icmp .ne 7, 3) := by decide +kernel
theorem dX6_deal_92 : decode cX6_deal 92 = .ok (.iconst 3, 1) := by decide +kernel
theorem dX6_deal_93 : decode cX6_deal 93 = .ok (.goto 4, 3) := by decide +kernel
theorem dX6_deal_96 : decode cX6_deal 96 = .ok (.iconst 0, 1) := by decide +kernel
theorem dX6_deal_97 : decode cX6_deal 97 = .ok (.putfield 53, 3) := by decide +kernel
theorem dX6_deal_100 : decode cX6_deal 100 = .ok (.aload_n 0, 1) := by decide +kernel
theorem dX6_deal_101 : decode cX6_deal 101 = .ok (.getfield 53, 3) := by decide +kernel
theorem dX6_deal_104 : decode cX6_deal 104 = .ok (.ifCond .le 5, 3) := by decide +kernel
theorem dX6_deal_107 : decode cX6_deal 107 = .ok (.iconst 0, 1) := by decide +kernel
theorem dX6_deal_108 : decode cX6_deal 108 = .ok (.ireturn, 1) := by decide +kernel
theorem dX6_deal_109 : decode cX6_deal 109 = .ok (.aload_n 0, 1) := by decide +kernel
theorem dX6_deal_110 : decode cX6_deal 110 = .ok (.getfield 61, 3) := by decide +kernel
theorem dX6_deal_113 : decode cX6_deal 113 = .ok (.istore 9, 2) := by decide +kernel
theorem dX6_deal_115 : decode cX6_deal 115 = .ok (.aload_n 0, 1) := by decide +kernel
theorem dX6_deal_116 : decode cX6_deal 116 = .ok (.getfield 26, 3) := by decide +kernel
theorem dX6_deal_119 : decode cX6_deal 119 = .ok (.iload 9, 2) := by decide +kernel
theorem dX6_deal_121 : decode cX6_deal 121 = .ok (.iload_n 1, 1) := by decide +kernel
theorem dX6_deal_122 : decode cX6_deal 122 = .ok (.iastore, 1) := by decide +kernel
theorem dX6_deal_123 : decode cX6_deal 123 = .ok (.aload_n 0, 1) := by decide +kernel
theorem dX6_deal_124 : decode cX6_deal 124 = .ok (.getfield 29, 3) := by decide +kernel
theorem dX6_deal_127 : decode cX6_deal 127 = .ok (.iload 9, 2) := by decide +kernel
theorem dX6_deal_129 : decode cX6_deal 129 = .ok (.iload_n 2, 1) := by decide +kernel
theorem dX6_deal_130 : decode cX6_deal 130 = .ok (.iastore, 1) := by decide +kernel
theorem dX6_deal_131 : decode cX6_deal 131 = .ok (.aload_n 0, 1) := by decide +kernel
theorem dX6_deal_132 : decode cX6_deal 132 = .ok (.getfield 32, 3) := by decide +kernel
theorem dX6_deal_135 : decode cX6_deal 135 = .ok (.iload 9, 2) := by decide +kernel
theorem dX6_deal_137 : decode cX6_deal 137 = .ok (.iload_n 3, 1) := by decide +kernel
theorem dX6_deal_138 : decode cX6_deal 138 = .ok (.bastore, 1) := by decide +kernel
theorem dX6_deal_139 : decode cX6_deal 139 = .ok (.aload_n 0, 1) := by decide +kernel
theorem dX6_deal_140 : decode cX6_deal 140 = .ok (.getfield 35, 3) := by decide +kernel
theorem dX6_deal_143 : decode cX6_deal 143 = .ok (.iload 9, 2) := by decide +kernel
theorem dX6_deal_145 : decode cX6_deal 145 = .ok (.iload 4, 2) := by decide +kernel
theorem dX6_deal_147 : decode cX6_deal 147 = .ok (.iastore, 1) := by decide +kernel
theorem dX6_deal_148 : decode cX6_deal 148 = .ok (.aload_n 0, 1) := by decide +kernel
theorem dX6_deal_149 : decode cX6_deal 149 = .ok (.getfield 38, 3) := by decide +kernel
theorem dX6_deal_152 : decode cX6_deal 152 = .ok (.iload 9, 2) := by decide +kernel
theorem dX6_deal_154 : decode cX6_deal 154 = .ok (.aload_n 0, 1) := by decide +kernel
theorem dX6_deal_155 : decode cX6_deal 155 = .ok (.getfield 64, 3) := by decide +kernel
theorem dX6_deal_158 : decode cX6_deal 158 = .ok (.iload 5, 2) := by decide +kernel
theorem dX6_deal_160 : decode cX6_deal 160 = .ok (.iadd, 1) := by decide +kernel
theorem dX6_deal_161 : decode cX6_deal 161 = .ok (.iastore, 1) := by decide +kernel
theorem dX6_deal_162 : decode cX6_deal 162 = .ok (.aload_n 0, 1) := by decide +kernel
theorem dX6_deal_163 : decode cX6_deal 163 = .ok (.getfield 41, 3) := by decide +kernel
theorem dX6_deal_166 : decode cX6_deal 166 = .ok (.iload 9, 2) := by decide +kernel
theorem dX6_deal_168 : decode cX6_deal 168 = .ok (.aload_n 0, 1) := by decide +kernel
theorem dX6_deal_169 : decode cX6_deal 169 = .ok (.getfield 64, 3) := by decide +kernel
theorem dX6_deal_172 : decode cX6_deal 172 = .ok (.iload 6, 2) := by decide +kernel
theorem dX6_deal_174 : decode cX6_deal 174 = .ok (.iadd, 1) := by decide +kernel
theorem dX6_deal_175 : decode cX6_deal 175 = .ok (.iastore, 1) := by decide +kernel
theorem dX6_deal_176 : decode cX6_deal 176 = .ok (.aload_n 0, 1) := by decide +kernel
theorem dX6_deal_177 : decode cX6_deal 177 = .ok (.getfield 44, 3) := by decide +kernel
theorem dX6_deal_180 : decode cX6_deal 180 = .ok (.iload 9, 2) := by decide +kernel
theorem dX6_deal_182 : decode cX6_deal 182 = .ok (.aload_n 0, 1) := by decide +kernel
theorem dX6_deal_183 : decode cX6_deal 183 = .ok (.iload_n 2, 1) := by decide +kernel
theorem dX6_deal_184 : decode cX6_deal 184 = .ok (.aload_n 0, 1) := by decide +kernel
theorem dX6_deal_185 : decode cX6_deal 185 = .ok (.getfield 64, 3) := by decide +kernel
theorem dX6_deal_188 : decode cX6_deal 188 = .ok (.iload 6, 2) := by decide +kernel
theorem dX6_deal_190 : decode cX6_deal 190 = .ok (.iadd, 1) := by decide +kernel
theorem dX6_deal_191 : decode cX6_deal 191 = .ok (.invokevirtual 82, 3) := by decide +kernel
theorem dX6_deal_194 : decode cX6_deal 194 = .ok (.iastore, 1) := by decide +kernel
theorem dX6_deal_195 : decode cX6_deal 195 = .ok (.aload_n 0, 1) := by decide +kernel
theorem dX6_deal_196 : decode cX6_deal 196 = .ok (.dup, 1) := by decide +kernel
theorem dX6_deal_197 : decode cX6_deal 197 = .ok (.getfield 61, 3) := by decide +kernel
theorem dX6_deal_200 : decode cX6_deal 200 = .ok (.iconst 1, 1) := by decide +kernel
theorem dX6_deal_201 : decode cX6_deal 201 = .ok (.iadd, 1) := by decide +kernel
theorem dX6_deal_202 : decode cX6_deal 202 = .ok (.putfield 61, 3) := by decide +kernel
theorem dX6_deal_205 : decode cX6_deal 205 = .ok (.aload_n 0, 1) := by decide +kernel
theorem dX6_deal_206 : decode cX6_deal 206 = .ok (.iload_n 1, 1) := by decide +kernel
theorem dX6_deal_207 : decode cX6_deal 207 = .ok (.invokevirtual 105, 3) := by decide +kernel
theorem dX6_deal_210 : decode cX6_deal 210 = .ok (.aload_n 0, 1) := by decide +kernel
theorem dX6_deal_211 : decode cX6_deal 211 = .ok (.getfield 18, 3) := by decide +kernel
theorem dX6_deal_214 : decode cX6_deal 214 = .ok (.iload_n 1, 1) := by decide +kernel
theorem dX6_deal_215 : decode cX6_deal 215 = .ok (.laload, 1) := by decide +kernel
theorem dX6_deal_216 : decode cX6_deal 216 = .ok (.lcmp, 1) := by decide +kernel
theorem dX6_deal_217 : decode cX6_deal 217 = .ok (.ifCond .le 20, 3) := by decide +kernel
theorem dX6_deal_220 : decode cX6_deal 220 = .ok (.aload_n 0, 1) := by decide +kernel
theorem dX6_deal_221 : decode cX6_deal 221 = .ok (.dup, 1) := by decide +kernel
theorem dX6_deal_222 : decode cX6_deal 222 = .ok (.getfield 61, 3) := by decide +kernel
theorem dX6_deal_225 : decode cX6_deal 225 = .ok (.iconst 1, 1) := by decide +kernel
theorem dX6_deal_226 : decode cX6_deal 226 = .ok (.isub, 1) := by decide +kernel
theorem dX6_deal_227 : decode cX6_deal 227 = .ok (.putfield 61, 3) := by decide +kernel
theorem dX6_deal_230 : decode cX6_deal 230 = .ok (.aload_n 0, 1) := by decide +kernel
theorem dX6_deal_231 : decode cX6_deal 231 = .ok (.iconst 3, 1) := by decide +kernel
theorem dX6_deal_232 : decode cX6_deal 232 = .ok (.putfield 53, 3) := by decide +kernel
theorem dX6_deal_235 : decode cX6_deal 235 = .ok (.iconst 0, 1) := by decide +kernel
theorem dX6_deal_236 : decode cX6_deal 236 = .ok (.ireturn, 1) := by decide +kernel
theorem dX6_deal_237 : decode cX6_deal 237 = .ok (.iload 9, 2) := by decide +kernel
theorem dX6_deal_239 : decode cX6_deal 239 = .ok (.ireturn, 1) := by decide +kernel
set_option maxRecDepth 20000 in
theorem ggX6_draw_X6_isDeal : GoodIn wsX6_draw wsX6_isDeal := goodIn_r _ [14, 15, 16, 17, 13, 18, 40, 41, 42, 43, 44, 45, 46, 47, 48, 49, 50, 51, 52, 53, 54, 55] (by decide +kernel) (by decide +kernel)
set_option maxRecDepth 20000 in
theorem gX6_draw_X6_isDeal : GoodIn wsX6_draw (wsV RX6 109 RX6 yX6_isDeal wsX6_isDeal) := goodIn_app (goodIn_of _ (by decide +kernel)) ggX6_draw_X6_isDeal
set_option maxRecDepth 20000 in
theorem ggX6_draw_X6_in : GoodIn wsX6_draw wsX6_in := goodIn_r _ [18] (by decide +kernel) (by decide +kernel)
set_option maxRecDepth 20000 in
theorem gX6_draw_X6_in : GoodIn wsX6_draw (va_wsS RX6 57 yX6_in wsX6_in) := goodIn_app (goodIn_of _ (by decide +kernel)) ggX6_draw_X6_in
set_option maxRecDepth 20000 in
theorem ggX6_draw_X6_atLeastOne : GoodIn wsX6_draw wsX6_atLeastOne := goodIn_r _ [21] (by decide +kernel) (by decide +kernel)
set_option maxRecDepth 20000 in
theorem gX6_draw_X6_atLeastOne : GoodIn wsX6_draw (va_wsS RX6 67 yX6_atLeastOne wsX6_atLeastOne) := goodIn_app (goodIn_of _ (by decide +kernel)) ggX6_draw_X6_atLeastOne
set_option maxRecDepth 20000 in
theorem ggX6_draw_X6_home : GoodIn wsX6_draw wsX6_home := goodIn_r _ [24, 25] (by decide +kernel) (by decide +kernel)
set_option maxRecDepth 20000 in
theorem gX6_draw_X6_home : GoodIn wsX6_draw (va_wsS RX6 86 yX6_home wsX6_home) := goodIn_app (goodIn_of _ (by decide +kernel)) ggX6_draw_X6_home
set_option maxRecDepth 20000 in
theorem ggX6_draw_X6_owes : GoodIn wsX6_draw wsX6_owes := goodIn_r _ [29, 30, 31, 32, 33, 13, 34, 4, 35, 36, 37, 38, 39, 40, 41, 42, 43, 44, 45, 46, 47, 48, 49, 50, 51, 52, 53, 54, 55] (by decide +kernel) (by decide +kernel)
set_option maxRecDepth 20000 in
theorem gX6_draw_X6_owes : GoodIn wsX6_draw (wsV RX6 112 RX6 yX6_owes wsX6_owes) := goodIn_app (goodIn_of _ (by decide +kernel)) ggX6_draw_X6_owes
theorem dX6_draw_0 : decode cX6_draw 0 = .ok (.aload_n 0, 1) := by decide +kernel
theorem dX6_draw_1 : decode cX6_draw 1 = .ok (.aload_n 0, 1) := by decide +kernel
theorem dX6_draw_2 : decode cX6_draw 2 = .ok (.iload_n 1, 1) := by decide +kernel
theorem dX6_draw_3 : decode cX6_draw 3 = .ok (.invokevirtual 109, 3) := by decide +kernel
theorem dX6_draw_6 : decode cX6_draw 6 = .ok (.ifCond .ne 7, 3) := by decide +kernel
theorem dX6_draw_9 : decode cX6_draw 9 = .ok (.iconst 1, 1) := by decide +kernel
theorem dX6_draw_10 : decode cX6_draw 10 = .ok (.goto 22, 3) := by decide +kernel
theorem dX6_draw_13 : decode cX6_draw 13 = .ok (.iload_n 2, 1) := by decide +kernel
theorem dX6_draw_14 : decode cX6_draw 14 = .ok (.iconst 1, 1) := by decide +kernel
theorem dX6_draw_15 : decode cX6_draw 15 = .ok (.aload_n 0, 1) := by decide +kernel
theorem dX6_draw_16 : decode cX6_draw 16 = .ok (.getfield 35, 3) := by decide +kernel
theorem dX6_draw_19 : decode cX6_draw 19 = .ok (.iload_n 1, 1) := by decide +kernel
theorem dX6_draw_20 : decode cX6_draw 20 = .ok (.iaload, 1) := by decide +kernel
theorem dX6_draw_21 : decode cX6_draw 21 = .ok (.invokestatic 57, 3) := by decide +kernel
theorem dX6_draw_24 : decode cX6_draw 24 = .ok (.ifCond .eq 7, 3) := by decide +kernel
theorem dX6_draw_27 : decode cX6_draw 27 = .ok (.iconst 0, 1) := by decide +kernel
theorem dX6_draw_28 : decode cX6_draw 28 = .ok (.goto 4, 3) := by decide +kernel
theorem dX6_draw_31 : decode cX6_draw 31 = .ok (.iconst 2, 1) := by decide +kernel
theorem dX6_draw_32 : decode cX6_draw 32 = .ok (.putfield 53, 3) := by decide +kernel
theorem dX6_draw_35 : decode cX6_draw 35 = .ok (.aload_n 0, 1) := by decide +kernel
theorem dX6_draw_36 : decode cX6_draw 36 = .ok (.getfield 53, 3) := by decide +kernel
theorem dX6_draw_39 : decode cX6_draw 39 = .ok (.ifCond .le 5, 3) := by decide +kernel
theorem dX6_draw_42 : decode cX6_draw 42 = .ok (.iconst 0, 1) := by decide +kernel
theorem dX6_draw_43 : decode cX6_draw 43 = .ok (.ireturn, 1) := by decide +kernel
theorem dX6_draw_44 : decode cX6_draw 44 = .ok (.aload_n 0, 1) := by decide +kernel
theorem dX6_draw_45 : decode cX6_draw 45 = .ok (.getfield 38, 3) := by decide +kernel
theorem dX6_draw_48 : decode cX6_draw 48 = .ok (.iload_n 1, 1) := by decide +kernel
theorem dX6_draw_49 : decode cX6_draw 49 = .ok (.iaload, 1) := by decide +kernel
theorem dX6_draw_50 : decode cX6_draw 50 = .ok (.aload_n 0, 1) := by decide +kernel
theorem dX6_draw_51 : decode cX6_draw 51 = .ok (.getfield 64, 3) := by decide +kernel
theorem dX6_draw_54 : decode cX6_draw 54 = .ok (.if_icmp .le 29, 3) := by decide +kernel
theorem dX6_draw_57 : decode cX6_draw 57 = .ok (.aload_n 0, 1) := by decide +kernel
theorem dX6_draw_58 : decode cX6_draw 58 = .ok (.getfield 13, 3) := by decide +kernel
theorem dX6_draw_61 : decode cX6_draw 61 = .ok (.aload_n 0, 1) := by decide +kernel
theorem dX6_draw_62 : decode cX6_draw 62 = .ok (.getfield 29, 3) := by decide +kernel
theorem dX6_draw_65 : decode cX6_draw 65 = .ok (.iload_n 1, 1) := by decide +kernel
theorem dX6_draw_66 : decode cX6_draw 66 = .ok (.iaload, 1) := by decide +kernel
theorem dX6_draw_67 : decode cX6_draw 67 = .ok (.iaload, 1) := by decide +kernel
theorem dX6_draw_68 : decode cX6_draw 68 = .ok (.aload_n 0, 1) := by decide +kernel
theorem dX6_draw_69 : decode cX6_draw 69 = .ok (.getfield 38, 3) := by decide +kernel
theorem dX6_draw_72 : decode cX6_draw 72 = .ok (.iload_n 1, 1) := by decide +kernel
theorem dX6_draw_73 : decode cX6_draw 73 = .ok (.iaload, 1) := by decide +kernel
theorem dX6_draw_74 : decode cX6_draw 74 = .ok (.aload_n 0, 1) := by decide +kernel
theorem dX6_draw_75 : decode cX6_draw 75 = .ok (.getfield 64, 3) := by decide +kernel
theorem dX6_draw_78 : decode cX6_draw 78 = .ok (.isub, 1) := by decide +kernel
theorem dX6_draw_79 : decode cX6_draw 79 = .ok (.imul, 1) := by decide +kernel
theorem dX6_draw_80 : decode cX6_draw 80 = .ok (.goto 4, 3) := by decide +kernel
theorem dX6_draw_83 : decode cX6_draw 83 = .ok (.iconst 0, 1) := by decide +kernel
theorem dX6_draw_84 : decode cX6_draw 84 = .ok (.istore_n 3, 1) := by decide +kernel
theorem dX6_draw_85 : decode cX6_draw 85 = .ok (.aload_n 0, 1) := by decide +kernel
theorem dX6_draw_86 : decode cX6_draw 86 = .ok (.getfield 38, 3) := by decide +kernel
theorem dX6_draw_89 : decode cX6_draw 89 = .ok (.iload_n 1, 1) := by decide +kernel
theorem dX6_draw_90 : decode cX6_draw 90 = .ok (.iaload, 1) := by decide +kernel
theorem dX6_draw_91 : decode cX6_draw 91 = .ok (.aload_n 0, 1) := by decide +kernel
theorem dX6_draw_92 : decode cX6_draw 92 = .ok (.getfield 64, 3) := by decide +kernel
theorem dX6_draw_95 : decode cX6_draw 95 = .ok (.if_icmp .le 17, 3) := by decide +kernel
theorem dX6_draw_98 : decode cX6_draw 98 = .ok (.aload_n 0, 1) := by decide +kernel
theorem dX6_draw_99 : decode cX6_draw 99 = .ok (.getfield 44, 3) := by decide +kernel
theorem dX6_draw_102 : decode cX6_draw 102 = .ok (.iload_n 1, 1) := by decide +kernel
theorem dX6_draw_103 : decode cX6_draw 103 = .ok (.iaload, 1) := by decide +kernel
theorem dX6_draw_104 : decode cX6_draw 104 = .ok (.iload_n 3, 1) := by decide +kernel
theorem dX6_draw_105 : decode cX6_draw 105 = .ok (.isub, 1) := by decide +kernel
theorem dX6_draw_106 : decode cX6_draw 106 = .ok (.invokestatic 67, 3) := by decide +kernel
theorem dX6_draw_109 : decode cX6_draw 109 = .ok (.goto 9, 3) := by decide +kernel
theorem dX6_draw_112 : decode cX6_draw 112 = .ok (.aload_n 0, 1) := by decide +kernel
theorem dX6_draw_113 : decode cX6_draw 113 = .ok (.getfield 44, 3) := by decide +kernel
theorem dX6_draw_116 : decode cX6_draw 116 = .ok (.iload_n 1, 1) := by decide +kernel
theorem dX6_draw_117 : decode cX6_draw 117 = .ok (.iaload, 1) := by decide +kernel
theorem dX6_draw_118 : decode cX6_draw 118 = .ok (.istore 4, 2) := by decide +kernel
theorem dX6_draw_120 : decode cX6_draw 120 = .ok (.aload_n 0, 1) := by decide +kernel
theorem dX6_draw_121 : decode cX6_draw 121 = .ok (.getfield 35, 3) := by decide +kernel
theorem dX6_draw_124 : decode cX6_draw 124 = .ok (.iload_n 1, 1) := by decide +kernel
theorem dX6_draw_125 : decode cX6_draw 125 = .ok (.dup2, 1) := by decide +kernel
theorem dX6_draw_126 : decode cX6_draw 126 = .ok (.iaload, 1) := by decide +kernel
theorem dX6_draw_127 : decode cX6_draw 127 = .ok (.iload_n 2, 1) := by decide +kernel
theorem dX6_draw_128 : decode cX6_draw 128 = .ok (.isub, 1) := by decide +kernel
theorem dX6_draw_129 : decode cX6_draw 129 = .ok (.iastore, 1) := by decide +kernel
theorem dX6_draw_130 : decode cX6_draw 130 = .ok (.iload_n 2, 1) := by decide +kernel
theorem dX6_draw_131 : decode cX6_draw 131 = .ok (.iload 4, 2) := by decide +kernel
theorem dX6_draw_133 : decode cX6_draw 133 = .ok (.invokestatic 86, 3) := by decide +kernel
theorem dX6_draw_136 : decode cX6_draw 136 = .ok (.lstore 5, 2) := by decide +kernel
theorem dX6_draw_138 : decode cX6_draw 138 = .ok (.aload_n 0, 1) := by decide +kernel
theorem dX6_draw_139 : decode cX6_draw 139 = .ok (.aload_n 0, 1) := by decide +kernel
theorem dX6_draw_140 : decode cX6_draw 140 = .ok (.getfield 26, 3) := by decide +kernel
theorem dX6_draw_143 : decode cX6_draw 143 = .ok (.iload_n 1, 1) := by decide +kernel
theorem dX6_draw_144 : decode cX6_draw 144 = .ok (.iaload, 1) := by decide +kernel
theorem dX6_draw_145 : decode cX6_draw 145 = .ok (.aload_n 0, 1) := by decide +kernel
theorem dX6_draw_146 : decode cX6_draw 146 = .ok (.getfield 29, 3) := by decide +kernel
theorem dX6_draw_149 : decode cX6_draw 149 = .ok (.iload_n 1, 1) := by decide +kernel
theorem dX6_draw_150 : decode cX6_draw 150 = .ok (.iaload, 1) := by decide +kernel
theorem dX6_draw_151 : decode cX6_draw 151 = .ok (.aload_n 0, 1) := by decide +kernel
theorem dX6_draw_152 : decode cX6_draw 152 = .ok (.getfield 32, 3) := by decide +kernel
theorem dX6_draw_155 : decode cX6_draw 155 = .ok (.iload_n 1, 1) := by decide +kernel
theorem dX6_draw_156 : decode cX6_draw 156 = .ok (.baload, 1) := by decide +kernel
theorem dX6_draw_157 : decode cX6_draw 157 = .ok (.ifCond .eq 8, 3) := by decide +kernel
theorem dX6_draw_160 : decode cX6_draw 160 = .ok (.iload_n 2, 1) := by decide +kernel
theorem dX6_draw_161 : decode cX6_draw 161 = .ok (.i2l, 1) := by decide +kernel
theorem dX6_draw_162 : decode cX6_draw 162 = .ok (.goto 6, 3) := by decide +kernel
theorem dX6_draw_165 : decode cX6_draw 165 = .ok (.iload_n 2, 1) := by decide +kernel
theorem dX6_draw_166 : decode cX6_draw 166 = .ok (.ineg, 1) := by decide +kernel
theorem dX6_draw_167 : decode cX6_draw 167 = .ok (.i2l, 1) := by decide +kernel
theorem dX6_draw_168 : decode cX6_draw 168 = .ok (.invokevirtual 112, 3) := by decide +kernel
theorem dX6_draw_171 : decode cX6_draw 171 = .ok (.aload_n 0, 1) := by decide +kernel
theorem dX6_draw_172 : decode cX6_draw 172 = .ok (.aload_n 0, 1) := by decide +kernel
theorem dX6_draw_173 : decode cX6_draw 173 = .ok (.getfield 26, 3) := by decide +kernel
theorem dX6_draw_176 : decode cX6_draw 176 = .ok (.iload_n 1, 1) := by decide +kernel
theorem dX6_draw_177 : decode cX6_draw 177 = .ok (.iaload, 1) := by decide +kernel
theorem dX6_draw_178 : decode cX6_draw 178 = .ok (.iconst 4, 1) := by decide +kernel
theorem dX6_draw_179 : decode cX6_draw 179 = .ok (.aload_n 0, 1) := by decide +kernel
theorem dX6_draw_180 : decode cX6_draw 180 = .ok (.getfield 32, 3) := by decide +kernel
theorem dX6_draw_183 : decode cX6_draw 183 = .ok (.iload_n 1, 1) := by decide +kernel
theorem dX6_draw_184 : decode cX6_draw 184 = .ok (.baload, 1) := by decide +kernel
theorem dX6_draw_185 : decode cX6_draw 185 = .ok (.ifCond .eq 9, 3) := by decide +kernel
theorem dX6_draw_188 : decode cX6_draw 188 = .ok (.lload 5, 2) := by decide +kernel
theorem dX6_draw_190 : decode cX6_draw 190 = .ok (.lneg, 1) := by decide +kernel
theorem dX6_draw_191 : decode cX6_draw 191 = .ok (.goto 5, 3) := by decide +kernel
theorem dX6_draw_194 : decode cX6_draw 194 = .ok (.lload 5, 2) := by decide +kernel
theorem dX6_draw_196 : decode cX6_draw 196 = .ok (.invokevirtual 112, 3) := by decide +kernel
theorem dX6_draw_199 : decode cX6_draw 199 = .ok (.iload 4, 2) := by decide +kernel
theorem dX6_draw_201 : decode cX6_draw 201 = .ok (.ireturn, 1) := by decide +kernel
set_option maxRecDepth 20000 in
theorem ggX6_roll_X6_isDeal : GoodIn wsX6_roll wsX6_isDeal := goodIn_r _ [14, 15, 16, 17, 13, 18, 54, 55, 56, 57, 58, 59, 60, 61, 62, 63, 64, 65, 66, 67, 68, 69] (by decide +kernel) (by decide +kernel)
set_option maxRecDepth 20000 in
theorem gX6_roll_X6_isDeal : GoodIn wsX6_roll (wsV RX6 109 RX6 yX6_isDeal wsX6_isDeal) := goodIn_app (goodIn_of _ (by decide +kernel)) ggX6_roll_X6_isDeal
set_option maxRecDepth 20000 in
theorem ggX6_roll_X6_in : GoodIn wsX6_roll wsX6_in := goodIn_r _ [18] (by decide +kernel) (by decide +kernel)
set_option maxRecDepth 20000 in
theorem gX6_roll_X6_in : GoodIn wsX6_roll (va_wsS RX6 57 yX6_in wsX6_in) := goodIn_app (goodIn_of _ (by decide +kernel)) ggX6_roll_X6_in
set_option maxRecDepth 20000 in
theorem ggX6_roll_X6_gainNow : GoodIn wsX6_roll wsX6_gainNow := goodIn_r _ [22, 1, 7, 2, 23, 24, 25, 13, 26, 27, 8, 3, 28, 29, 30, 31, 32, 33, 34, 6, 35, 36, 37, 38, 39, 54, 55, 56, 57, 58, 59, 60, 61, 62, 63, 64, 65, 66, 67, 68, 69] (by decide +kernel) (by decide +kernel)
set_option maxRecDepth 20000 in
theorem gX6_roll_X6_gainNow : GoodIn wsX6_roll (wsV RX6 116 RX6 yX6_gainNow wsX6_gainNow) := goodIn_app (goodIn_of _ (by decide +kernel)) ggX6_roll_X6_gainNow
set_option maxRecDepth 20000 in
theorem ggX6_roll_X6_owes : GoodIn wsX6_roll wsX6_owes := goodIn_r _ [43, 44, 45, 46, 47, 13, 48, 3, 49, 50, 51, 52, 53, 54, 55, 56, 57, 58, 59, 60, 61, 62, 63, 64, 65, 66, 67, 68, 69] (by decide +kernel) (by decide +kernel)
set_option maxRecDepth 20000 in
theorem gX6_roll_X6_owes : GoodIn wsX6_roll (wsV RX6 112 RX6 yX6_owes wsX6_owes) := goodIn_app (goodIn_of _ (by decide +kernel)) ggX6_roll_X6_owes
set_option maxRecDepth 20000 in
theorem ggX6_roll_X6_forwardFor : GoodIn wsX6_roll wsX6_forwardFor := goodIn_r _ [26, 27, 8, 3, 28, 29, 13, 30, 54, 55, 56, 57, 58, 59, 60, 61, 62, 63, 64, 65, 66, 67, 68, 69] (by decide +kernel) (by decide +kernel)
set_option maxRecDepth 20000 in
theorem gX6_roll_X6_forwardFor : GoodIn wsX6_roll (wsV RX6 82 RX6 yX6_forwardFor wsX6_forwardFor) := goodIn_app (goodIn_of _ (by decide +kernel)) ggX6_roll_X6_forwardFor
set_option maxRecDepth 20000 in
theorem ggX6_roll_X6_atLeastOne : GoodIn wsX6_roll wsX6_atLeastOne := goodIn_r _ [30] (by decide +kernel) (by decide +kernel)
set_option maxRecDepth 20000 in
theorem gX6_roll_X6_atLeastOne : GoodIn wsX6_roll (va_wsS RX6 67 yX6_atLeastOne wsX6_atLeastOne) := goodIn_app (goodIn_of _ (by decide +kernel)) ggX6_roll_X6_atLeastOne
theorem dX6_roll_0 : decode cX6_roll 0 = .ok (.aload_n 0, 1) := by decide +kernel
theorem dX6_roll_1 : decode cX6_roll 1 = .ok (.aload_n 0, 1) := by decide +kernel
theorem dX6_roll_2 : decode cX6_roll 2 = .ok (.iload_n 1, 1) := by decide +kernel
theorem dX6_roll_3 : decode cX6_roll 3 = .ok (.invokevirtual 109, 3) := by decide +kernel
theorem dX6_roll_6 : decode cX6_roll 6 = .ok (.ifCond .ne 7, 3) := by decide +kernel
theorem dX6_roll_9 : decode cX6_roll 9 = .ok (.iconst 1, 1) := by decide +kernel
theorem dX6_roll_10 : decode cX6_roll 10 = .ok (.goto 50, 3) := by decide +kernel
theorem dX6_roll_13 : decode cX6_roll 13 = .ok (.iload_n 2, 1) := by decide +kernel
theorem dX6_roll_14 : decode cX6_roll 14 = .ok (.iconst 1, 1) := by decide +kernel
theorem dX6_roll_15 : decode cX6_roll 15 = .ok (.bipush 100, 2) := by decide +kernel
theorem dX6_roll_17 : decode cX6_roll 17 = .ok (.invokestatic 57, 3) := by decide +kernel
theorem dX6_roll_20 : decode cX6_roll 20 = .ok (.ifCond .ne 7, 3) := by decide +kernel
theorem dX6_roll_23 : decode cX6_roll 23 = .ok (.iconst 2, 1) := by decide +kernel
theorem dX6_roll_24 : decode cX6_roll 24 = .ok (.goto 36, 3) := by decide +kernel
theorem dX6_roll_27 : decode cX6_roll 27 = .ok (.aload_n 0, 1) := by decide +kernel
theorem dX6_roll_28 : decode cX6_roll 28 = .ok (.getfield 35, 3) := by decide +kernel
theorem dX6_roll_31 : decode cX6_roll 31 = .ok (.iload_n 1, 1) := by decide +kernel
theorem dX6_roll_32 : decode cX6_roll 32 = .ok (.iaload, 1) := by decide +kernel
theorem dX6_roll_33 : decode cX6_roll 33 = .ok (.ifCond .eq 22, 3) := by decide +kernel
theorem dX6_roll_36 : decode cX6_roll 36 = .ok (.aload_n 0, 1) := by decide +kernel
theorem dX6_roll_37 : decode cX6_roll 37 = .ok (.getfield 41, 3) := by decide +kernel
theorem dX6_roll_40 : decode cX6_roll 40 = .ok (.iload_n 1, 1) := by decide +kernel
theorem dX6_roll_41 : decode cX6_roll 41 = .ok (.iaload, 1) := by decide +kernel
theorem dX6_roll_42 : decode cX6_roll 42 = .ok (.iload_n 2, 1) := by decide +kernel
theorem dX6_roll_43 : decode cX6_roll 43 = .ok (.iadd, 1) := by decide +kernel
theorem dX6_roll_44 : decode cX6_roll 44 = .ok (.aload_n 0, 1) := by decide +kernel
theorem dX6_roll_45 : decode cX6_roll 45 = .ok (.getfield 64, 3) := by decide +kernel
theorem dX6_roll_48 : decode cX6_roll 48 = .ok (.sipush 400, 3) := by decide +kernel
theorem dX6_roll_51 : decode cX6_roll 51 = .ok (.iadd, 1) := by decide +kernel
theorem dX6_roll_52 : decode cX6_roll 52 = .ok (.if_icmp .le 7, 3) := by decide +kernel
theorem dX6_roll_55 : decode cX6_roll 55 = .ok (.iconst 3, 1) := by decide +kernel
theorem dX6_roll_56 : decode cX6_roll 56 = .ok (.goto 4, 3) := by decide +kernel
theorem dX6_roll_59 : decode cX6_roll 59 = .ok (.iconst 0, 1) := by decide +kernel
theorem dX6_roll_60 : decode cX6_roll 60 = .ok (.putfield 53, 3) := by decide +kernel
theorem dX6_roll_63 : decode cX6_roll 63 = .ok (.aload_n 0, 1) := by decide +kernel
theorem dX6_roll_64 : decode cX6_roll 64 = .ok (.getfield 53, 3) := by decide +kernel
theorem dX6_roll_67 : decode cX6_roll 67 = .ok (.ifCond .le 5, 3) := by decide +kernel
theorem dX6_roll_70 : decode cX6_roll 70 = .ok (.iconst 0, 1) := by decide +kernel
theorem dX6_roll_71 : decode cX6_roll 71 = .ok (.ireturn, 1) := by decide +kernel
theorem dX6_roll_72 : decode cX6_roll 72 = .ok (.aload_n 0, 1) := by decide +kernel
theorem dX6_roll_73 : decode cX6_roll 73 = .ok (.getfield 41, 3) := by decide +kernel
theorem dX6_roll_76 : decode cX6_roll 76 = .ok (.iload_n 1, 1) := by decide +kernel
theorem dX6_roll_77 : decode cX6_roll 77 = .ok (.iaload, 1) := by decide +kernel
theorem dX6_roll_78 : decode cX6_roll 78 = .ok (.iload_n 2, 1) := by decide +kernel
theorem dX6_roll_79 : decode cX6_roll 79 = .ok (.iadd, 1) := by decide +kernel
theorem dX6_roll_80 : decode cX6_roll 80 = .ok (.istore 4, 2) := by decide +kernel
theorem dX6_roll_82 : decode cX6_roll 82 = .ok (.iload_n 3, 1) := by decide +kernel
theorem dX6_roll_83 : decode cX6_roll 83 = .ok (.ifCond .eq 40, 3) := by decide +kernel
theorem dX6_roll_86 : decode cX6_roll 86 = .ok (.aload_n 0, 1) := by decide +kernel
theorem dX6_roll_87 : decode cX6_roll 87 = .ok (.aload_n 0, 1) := by decide +kernel
theorem dX6_roll_88 : decode cX6_roll 88 = .ok (.getfield 26, 3) := by decide +kernel
theorem dX6_roll_91 : decode cX6_roll 91 = .ok (.iload_n 1, 1) := by decide +kernel
theorem dX6_roll_92 : decode cX6_roll 92 = .ok (.iaload, 1) := by decide +kernel
theorem dX6_roll_93 : decode cX6_roll 93 = .ok (.iconst 4, 1) := by decide +kernel
theorem dX6_roll_94 : decode cX6_roll 94 = .ok (.aload_n 0, 1) := by decide +kernel
theorem dX6_roll_95 : decode cX6_roll 95 = .ok (.iload_n 1, 1) := by decide +kernel
theorem dX6_roll_96 : decode cX6_roll 96 = .ok (.invokevirtual 116, 3) := by decide +kernel
theorem dX6_roll_99 : decode cX6_roll 99 = .ok (.invokevirtual 112, 3) := by decide +kernel
theorem dX6_roll_102 : decode cX6_roll 102 = .ok (.aload_n 0, 1) := by decide +kernel
theorem dX6_roll_103 : decode cX6_roll 103 = .ok (.getfield 44, 3) := by decide +kernel
theorem dX6_roll_106 : decode cX6_roll 106 = .ok (.iload_n 1, 1) := by decide +kernel
theorem dX6_roll_107 : decode cX6_roll 107 = .ok (.aload_n 0, 1) := by decide +kernel
theorem dX6_roll_108 : decode cX6_roll 108 = .ok (.aload_n 0, 1) := by decide +kernel
theorem dX6_roll_109 : decode cX6_roll 109 = .ok (.getfield 29, 3) := by decide +kernel
theorem dX6_roll_112 : decode cX6_roll 112 = .ok (.iload_n 1, 1) := by decide +kernel
theorem dX6_roll_113 : decode cX6_roll 113 = .ok (.iaload, 1) := by decide +kernel
theorem dX6_roll_114 : decode cX6_roll 114 = .ok (.iload 4, 2) := by decide +kernel
theorem dX6_roll_116 : decode cX6_roll 116 = .ok (.invokevirtual 82, 3) := by decide +kernel
theorem dX6_roll_119 : decode cX6_roll 119 = .ok (.iastore, 1) := by decide +kernel
theorem dX6_roll_120 : decode cX6_roll 120 = .ok (.goto 32, 3) := by decide +kernel
theorem dX6_roll_123 : decode cX6_roll 123 = .ok (.aload_n 0, 1) := by decide +kernel
theorem dX6_roll_124 : decode cX6_roll 124 = .ok (.getfield 44, 3) := by decide +kernel
theorem dX6_roll_127 : decode cX6_roll 127 = .ok (.iload_n 1, 1) := by decide +kernel
theorem dX6_roll_128 : decode cX6_roll 128 = .ok (.aload_n 0, 1) := by decide +kernel
theorem dX6_roll_129 : decode cX6_roll 129 = .ok (.getfield 44, 3) := by decide +kernel
theorem dX6_roll_132 : decode cX6_roll 132 = .ok (.iload_n 1, 1) := by decide +kernel
theorem dX6_roll_133 : decode cX6_roll 133 = .ok (.iaload, 1) := by decide +kernel
theorem dX6_roll_134 : decode cX6_roll 134 = .ok (.aload_n 0, 1) := by decide +kernel
theorem dX6_roll_135 : decode cX6_roll 135 = .ok (.getfield 13, 3) := by decide +kernel
theorem dX6_roll_138 : decode cX6_roll 138 = .ok (.aload_n 0, 1) := by decide +kernel
theorem dX6_roll_139 : decode cX6_roll 139 = .ok (.getfield 29, 3) := by decide +kernel
theorem dX6_roll_142 : decode cX6_roll 142 = .ok (.iload_n 1, 1) := by decide +kernel
theorem dX6_roll_143 : decode cX6_roll 143 = .ok (.iaload, 1) := by decide +kernel
theorem dX6_roll_144 : decode cX6_roll 144 = .ok (.iaload, 1) := by decide +kernel
theorem dX6_roll_145 : decode cX6_roll 145 = .ok (.iload_n 2, 1) := by decide +kernel
theorem dX6_roll_146 : decode cX6_roll 146 = .ok (.imul, 1) := by decide +kernel
theorem dX6_roll_147 : decode cX6_roll 147 = .ok (.iadd, 1) := by decide +kernel
theorem dX6_roll_148 : decode cX6_roll 148 = .ok (.invokestatic 67, 3) := by decide +kernel
theorem dX6_roll_151 : decode cX6_roll 151 = .ok (.iastore, 1) := by decide +kernel
theorem dX6_roll_152 : decode cX6_roll 152 = .ok (.aload_n 0, 1) := by decide +kernel
theorem dX6_roll_153 : decode cX6_roll 153 = .ok (.getfield 38, 3) := by decide +kernel
theorem dX6_roll_156 : decode cX6_roll 156 = .ok (.iload_n 1, 1) := by decide +kernel
theorem dX6_roll_157 : decode cX6_roll 157 = .ok (.aload_n 0, 1) := by decide +kernel
theorem dX6_roll_158 : decode cX6_roll 158 = .ok (.getfield 41, 3) := by decide +kernel
theorem dX6_roll_161 : decode cX6_roll 161 = .ok (.iload_n 1, 1) := by decide +kernel
theorem dX6_roll_162 : decode cX6_roll 162 = .ok (.iaload, 1) := by decide +kernel
theorem dX6_roll_163 : decode cX6_roll 163 = .ok (.iastore, 1) := by decide +kernel
theorem dX6_roll_164 : decode cX6_roll 164 = .ok (.aload_n 0, 1) := by decide +kernel
theorem dX6_roll_165 : decode cX6_roll 165 = .ok (.getfield 41, 3) := by decide +kernel
theorem dX6_roll_168 : decode cX6_roll 168 = .ok (.iload_n 1, 1) := by decide +kernel
theorem dX6_roll_169 : decode cX6_roll 169 = .ok (.iload 4, 2) := by decide +kernel
theorem dX6_roll_171 : decode cX6_roll 171 = .ok (.iastore, 1) := by decide +kernel
theorem dX6_roll_172 : decode cX6_roll 172 = .ok (.aload_n 0, 1) := by decide +kernel
theorem dX6_roll_173 : decode cX6_roll 173 = .ok (.getfield 44, 3) := by decide +kernel
theorem dX6_roll_176 : decode cX6_roll 176 = .ok (.iload_n 1, 1) := by decide +kernel
theorem dX6_roll_177 : decode cX6_roll 177 = .ok (.iaload, 1) := by decide +kernel
theorem dX6_roll_178 : decode cX6_roll 178 = .ok (.ireturn, 1) := by decide +kernel
set_option maxRecDepth 20000 in
theorem ggX6_closes_X6_gainNow : GoodIn wsX6_closes wsX6_gainNow := goodIn_r _ [7, 2, 8, 9, 10, 11, 12, 6, 13, 14, 15, 16, 17, 18, 19, 20, 21, 22, 23, 24, 25, 26, 27, 28, 29, 44, 45, 46, 47, 48, 49, 50, 51, 52, 53, 54, 55, 56, 57, 58, 59] (by decide +kernel) (by decide +kernel)
set_option maxRecDepth 20000 in
theorem gX6_closes_X6_gainNow : GoodIn wsX6_closes (wsV RX6 116 RX6 yX6_gainNow wsX6_gainNow) := goodIn_app (goodIn_of _ (by decide +kernel)) ggX6_closes_X6_gainNow
set_option maxRecDepth 20000 in
theorem ggX6_closes_X6_owes : GoodIn wsX6_closes wsX6_owes := goodIn_r _ [33, 34, 35, 36, 37, 6, 38, 16, 39, 40, 41, 42, 43, 44, 45, 46, 47, 48, 49, 50, 51, 52, 53, 54, 55, 56, 57, 58, 59] (by decide +kernel) (by decide +kernel)
set_option maxRecDepth 20000 in
theorem gX6_closes_X6_owes : GoodIn wsX6_closes (wsV RX6 112 RX6 yX6_owes wsX6_owes) := goodIn_app (goodIn_of _ (by decide +kernel)) ggX6_closes_X6_owes
theorem dX6_closes_0 : decode cX6_closes 0 = .ok (.aload_n 0, 1) := by decide +kernel
theorem dX6_closes_1 : decode cX6_closes 1 = .ok (.iload_n 1, 1) := by decide +kernel
theorem dX6_closes_2 : decode cX6_closes 2 = .ok (.invokevirtual 116, 3) := by decide +kernel
theorem dX6_closes_5 : decode cX6_closes 5 = .ok (.lstore_n 2, 1) := by decide +kernel
theorem dX6_closes_6 : decode cX6_closes 6 = .ok (.aload_n 0, 1) := by decide +kernel
theorem dX6_closes_7 : decode cX6_closes 7 = .ok (.aload_n 0, 1) := by decide +kernel
theorem dX6_closes_8 : decode cX6_closes 8 = .ok (.getfield 26, 3) := by decide +kernel
theorem dX6_closes_11 : decode cX6_closes 11 = .ok (.iload_n 1, 1) := by decide +kernel
theorem dX6_closes_12 : decode cX6_closes 12 = .ok (.iaload, 1) := by decide +kernel
theorem dX6_closes_13 : decode cX6_closes 13 = .ok (.iconst 4, 1) := by decide +kernel
theorem dX6_closes_14 : decode cX6_closes 14 = .ok (.lload_n 2, 1) := by decide +kernel
theorem dX6_closes_15 : decode cX6_closes 15 = .ok (.invokevirtual 112, 3) := by decide +kernel
theorem dX6_closes_18 : decode cX6_closes 18 = .ok (.aload_n 0, 1) := by decide +kernel
theorem dX6_closes_19 : decode cX6_closes 19 = .ok (.getfield 35, 3) := by decide +kernel
theorem dX6_closes_22 : decode cX6_closes 22 = .ok (.iload_n 1, 1) := by decide +kernel
theorem dX6_closes_23 : decode cX6_closes 23 = .ok (.iconst 0, 1) := by decide +kernel
theorem dX6_closes_24 : decode cX6_closes 24 = .ok (.iastore, 1) := by decide +kernel
theorem dX6_closes_25 : decode cX6_closes 25 = .ok (.lload_n 2, 1) := by decide +kernel
theorem dX6_closes_26 : decode cX6_closes 26 = .ok (.lreturn, 1) := by decide +kernel
set_option maxRecDepth 20000 in
theorem ggX6_closeOut_X6_isDeal : GoodIn wsX6_closeOut wsX6_isDeal := goodIn_r _ [7, 8, 9, 10, 6, 11, 57, 58, 59, 60, 61, 62, 63, 64, 65, 66, 67, 68, 69, 70, 71, 72] (by decide +kernel) (by decide +kernel)
set_option maxRecDepth 20000 in
theorem gX6_closeOut_X6_isDeal : GoodIn wsX6_closeOut (wsV RX6 109 RX6 yX6_isDeal wsX6_isDeal) := goodIn_app (goodIn_of _ (by decide +kernel)) ggX6_closeOut_X6_isDeal
set_option maxRecDepth 20000 in
theorem ggX6_closeOut_X6_closes : GoodIn wsX6_closeOut wsX6_closes := goodIn_r _ [15, 16, 1, 17, 18, 19, 6, 20, 21, 22, 23, 24, 25, 26, 27, 28, 29, 30, 31, 32, 33, 34, 35, 36, 37, 38, 39, 40, 41, 42, 43, 44, 45, 46, 47, 48, 49, 50, 51, 52, 53, 54, 55, 56, 57, 58, 59, 60, 61, 62, 63, 64, 65, 66, 67, 68, 69, 70, 71, 72] (by decide +kernel) (by decide +kernel)
set_option maxRecDepth 20000 in
theorem gX6_closeOut_X6_closes : GoodIn wsX6_closeOut (wsV RX6 119 RX6 yX6_closes wsX6_closes) := goodIn_app (goodIn_of _ (by decide +kernel)) ggX6_closeOut_X6_closes
theorem dX6_closeOut_0 : decode cX6_closeOut 0 = .ok (.aload_n 0, 1) := by decide +kernel
theorem dX6_closeOut_1 : decode cX6_closeOut 1 = .ok (.aload_n 0, 1) := by decide +kernel
theorem dX6_closeOut_2 : decode cX6_closeOut 2 = .ok (.iload_n 1, 1) := by decide +kernel
theorem dX6_closeOut_3 : decode cX6_closeOut 3 = .ok (.invokevirtual 109, 3) := by decide +kernel
theorem dX6_closeOut_6 : decode cX6_closeOut 6 = .ok (.ifCond .ne 7, 3) := by decide +kernel
theorem dX6_closeOut_9 : decode cX6_closeOut 9 = .ok (.iconst 1, 1) := by decide +kernel
theorem dX6_closeOut_10 : decode cX6_closeOut 10 = .ok (.goto 17, 3) := by decide +kernel
theorem dX6_closeOut_13 : decode cX6_closeOut 13 = .ok (.aload_n 0, 1) := by decide +kernel
theorem dX6_closeOut_14 : decode cX6_closeOut 14 = .ok (.getfield 35, 3) := by decide +kernel
theorem dX6_closeOut_17 : decode cX6_closeOut 17 = .ok (.iload_n 1, 1) := by decide +kernel
theorem dX6_closeOut_18 : decode cX6_closeOut 18 = .ok (.iaload, 1) := by decide +kernel
theorem dX6_closeOut_19 : decode cX6_closeOut 19 = .ok (.ifCond .ne 7, 3) := by decide +kernel
theorem dX6_closeOut_22 : decode cX6_closeOut 22 = .ok (.iconst 2, 1) := by decide +kernel
theorem dX6_closeOut_23 : decode cX6_closeOut 23 = .ok (.goto 4, 3) := by decide +kernel
theorem dX6_closeOut_26 : decode cX6_closeOut 26 = .ok (.iconst 0, 1) := by decide +kernel
theorem dX6_closeOut_27 : decode cX6_closeOut 27 = .ok (.putfield 53, 3) := by decide +kernel
theorem dX6_closeOut_30 : decode cX6_closeOut 30 = .ok (.aload_n 0, 1) := by decide +kernel
theorem dX6_closeOut_31 : decode cX6_closeOut 31 = .ok (.getfield 53, 3) := by decide +kernel
theorem dX6_closeOut_34 : decode cX6_closeOut 34 = .ok (.ifCond .le 7, 3) := by decide +kernel
theorem dX6_closeOut_37 : decode cX6_closeOut 37 = .ok (.lconst 0, 1) := by decide +kernel
theorem dX6_closeOut_38 : decode cX6_closeOut 38 = .ok (.goto 8, 3) := by decide +kernel
theorem dX6_closeOut_41 : decode cX6_closeOut 41 = .ok (.aload_n 0, 1) := by decide +kernel
theorem dX6_closeOut_42 : decode cX6_closeOut 42 = .ok (.iload_n 1, 1) := by decide +kernel
theorem dX6_closeOut_43 : decode cX6_closeOut 43 = .ok (.invokevirtual 119, 3) := by decide +kernel
theorem dX6_closeOut_46 : decode cX6_closeOut 46 = .ok (.lreturn, 1) := by decide +kernel
set_option maxRecDepth 20000 in
theorem ggX6_asks_X6_isDeal : GoodIn wsX6_asks wsX6_isDeal := goodIn_r _ [6, 7, 8, 9, 5, 10, 11, 12, 13, 14, 15, 16, 17, 18, 19, 20, 21, 22, 23, 24, 25, 26] (by decide +kernel) (by decide +kernel)
set_option maxRecDepth 20000 in
theorem gX6_asks_X6_isDeal : GoodIn wsX6_asks (wsV RX6 109 RX6 yX6_isDeal wsX6_isDeal) := goodIn_app (goodIn_of _ (by decide +kernel)) ggX6_asks_X6_isDeal
theorem dX6_asks_0 : decode cX6_asks 0 = .ok (.aload_n 0, 1) := by decide +kernel
theorem dX6_asks_1 : decode cX6_asks 1 = .ok (.aload_n 0, 1) := by decide +kernel
theorem dX6_asks_2 : decode cX6_asks 2 = .ok (.iload_n 1, 1) := by decide +kernel
theorem dX6_asks_3 : decode cX6_asks 3 = .ok (.invokevirtual 109, 3) := by decide +kernel
theorem dX6_asks_6 : decode cX6_asks 6 = .ok (.ifCond .eq 7, 3) := by decide +kernel
theorem dX6_asks_9 : decode cX6_asks 9 = .ok (.iconst 0, 1) := by decide +kernel
theorem dX6_asks_10 : decode cX6_asks 10 = .ok (.goto 4, 3) := by decide +kernel
theorem dX6_asks_13 : decode cX6_asks 13 = .ok (.iconst 1, 1) := by decide +kernel
theorem dX6_asks_14 : decode cX6_asks 14 = .ok (.putfield 53, 3) := by decide +kernel
theorem dX6_asks_17 : decode cX6_asks 17 = .ok (.aload_n 0, 1) := by decide +kernel
theorem dX6_asks_18 : decode cX6_asks 18 = .ok (.getfield 53, 3) := by decide +kernel
theorem dX6_asks_21 : decode cX6_asks 21 = .ok (.ifCond .ne 7, 3) := by decide +kernel
theorem dX6_asks_24 : decode cX6_asks 24 = .ok (.iconst 1, 1) := by decide +kernel
theorem dX6_asks_25 : decode cX6_asks 25 = .ok (.goto 4, 3) := by decide +kernel
theorem dX6_asks_28 : decode cX6_asks 28 = .ok (.iconst 0, 1) := by decide +kernel
theorem dX6_asks_29 : decode cX6_asks 29 = .ok (.ireturn, 1) := by decide +kernel
set_option maxRecDepth 20000 in
theorem ggX6_left_X6_asks : GoodIn wsX6_left wsX6_asks := goodIn_r _ [6, 7, 8, 9, 10, 5, 11, 12, 13, 14, 15, 16, 17, 18, 19, 20, 21, 22, 23, 24, 25, 26, 27, 28, 29, 30, 31] (by decide +kernel) (by decide +kernel)
set_option maxRecDepth 20000 in
theorem gX6_left_X6_asks : GoodIn wsX6_left (wsV RX6 122 RX6 yX6_asks wsX6_asks) := goodIn_app (goodIn_of _ (by decide +kernel)) ggX6_left_X6_asks
theorem dX6_left_0 : decode cX6_left 0 = .ok (.aload_n 0, 1) := by decide +kernel
theorem dX6_left_1 : decode cX6_left 1 = .ok (.iload_n 1, 1) := by decide +kernel
theorem dX6_left_2 : decode cX6_left 2 = .ok (.invokevirtual 122, 3) := by decide +kernel
theorem dX6_left_5 : decode cX6_left 5 = .ok (.ifCond .eq 12, 3) := by decide +kernel
theorem dX6_left_8 : decode cX6_left 8 = .ok (.aload_n 0, 1) := by decide +kernel
theorem dX6_left_9 : decode cX6_left 9 = .ok (.getfield 35, 3) := by decide +kernel
theorem dX6_left_12 : decode cX6_left 12 = .ok (.iload_n 1, 1) := by decide +kernel
theorem dX6_left_13 : decode cX6_left 13 = .ok (.iaload, 1) := by decide +kernel
theorem dX6_left_14 : decode cX6_left 14 = .ok (.goto 4, 3) := by decide +kernel
theorem dX6_left_17 : decode cX6_left 17 = .ok (.iconst 0, 1) := by decide +kernel
theorem dX6_left_18 : decode cX6_left 18 = .ok (.ireturn, 1) := by decide +kernel
set_option maxRecDepth 20000 in
theorem ggX6_rate_X6_asks : GoodIn wsX6_rate wsX6_asks := goodIn_r _ [6, 7, 8, 9, 10, 5, 11, 12, 13, 14, 15, 16, 17, 18, 19, 20, 21, 22, 23, 24, 25, 26, 27, 28, 29, 30, 31] (by decide +kernel) (by decide +kernel)
set_option maxRecDepth 20000 in
theorem gX6_rate_X6_asks : GoodIn wsX6_rate (wsV RX6 122 RX6 yX6_asks wsX6_asks) := goodIn_app (goodIn_of _ (by decide +kernel)) ggX6_rate_X6_asks
theorem dX6_rate_0 : decode cX6_rate 0 = .ok (.aload_n 0, 1) := by decide +kernel
theorem dX6_rate_1 : decode cX6_rate 1 = .ok (.iload_n 1, 1) := by decide +kernel
theorem dX6_rate_2 : decode cX6_rate 2 = .ok (.invokevirtual 122, 3) := by decide +kernel
theorem dX6_rate_5 : decode cX6_rate 5 = .ok (.ifCond .eq 12, 3) := by decide +kernel
theorem dX6_rate_8 : decode cX6_rate 8 = .ok (.aload_n 0, 1) := by decide +kernel
theorem dX6_rate_9 : decode cX6_rate 9 = .ok (.getfield 44, 3) := by decide +kernel
theorem dX6_rate_12 : decode cX6_rate 12 = .ok (.iload_n 1, 1) := by decide +kernel
theorem dX6_rate_13 : decode cX6_rate 13 = .ok (.iaload, 1) := by decide +kernel
theorem dX6_rate_14 : decode cX6_rate 14 = .ok (.goto 4, 3) := by decide +kernel
theorem dX6_rate_17 : decode cX6_rate 17 = .ok (.iconst 0, 1) := by decide +kernel
theorem dX6_rate_18 : decode cX6_rate 18 = .ok (.ireturn, 1) := by decide +kernel
set_option maxRecDepth 20000 in
theorem ggX6_window_X6_asks : GoodIn wsX6_window wsX6_asks := goodIn_r _ [7, 8, 9, 10, 11, 6, 12, 13, 14, 15, 16, 17, 18, 19, 20, 21, 22, 23, 24, 25, 26, 27, 28, 29, 30, 31, 32] (by decide +kernel) (by decide +kernel)
set_option maxRecDepth 20000 in
theorem gX6_window_X6_asks : GoodIn wsX6_window (wsV RX6 122 RX6 yX6_asks wsX6_asks) := goodIn_app (goodIn_of _ (by decide +kernel)) ggX6_window_X6_asks
theorem dX6_window_0 : decode cX6_window 0 = .ok (.aload_n 0, 1) := by decide +kernel
theorem dX6_window_1 : decode cX6_window 1 = .ok (.iload_n 1, 1) := by decide +kernel
theorem dX6_window_2 : decode cX6_window 2 = .ok (.invokevirtual 122, 3) := by decide +kernel
theorem dX6_window_5 : decode cX6_window 5 = .ok (.ifCond .eq 23, 3) := by decide +kernel
theorem dX6_window_8 : decode cX6_window 8 = .ok (.sipush 10000, 3) := by decide +kernel
theorem dX6_window_11 : decode cX6_window 11 = .ok (.aload_n 0, 1) := by decide +kernel
theorem dX6_window_12 : decode cX6_window 12 = .ok (.getfield 38, 3) := by decide +kernel
theorem dX6_window_15 : decode cX6_window 15 = .ok (.iload_n 1, 1) := by decide +kernel
theorem dX6_window_16 : decode cX6_window 16 = .ok (.iaload, 1) := by decide +kernel
theorem dX6_window_17 : decode cX6_window 17 = .ok (.imul, 1) := by decide +kernel
theorem dX6_window_18 : decode cX6_window 18 = .ok (.aload_n 0, 1) := by decide +kernel
theorem dX6_window_19 : decode cX6_window 19 = .ok (.getfield 41, 3) := by decide +kernel
theorem dX6_window_22 : decode cX6_window 22 = .ok (.iload_n 1, 1) := by decide +kernel
theorem dX6_window_23 : decode cX6_window 23 = .ok (.iaload, 1) := by decide +kernel
theorem dX6_window_24 : decode cX6_window 24 = .ok (.iadd, 1) := by decide +kernel
theorem dX6_window_25 : decode cX6_window 25 = .ok (.goto 4, 3) := by decide +kernel
theorem dX6_window_28 : decode cX6_window 28 = .ok (.iconst 0, 1) := by decide +kernel
theorem dX6_window_29 : decode cX6_window 29 = .ok (.ireturn, 1) := by decide +kernel
set_option maxRecDepth 20000 in
theorem ggX6_gain_X6_asks : GoodIn wsX6_gain wsX6_asks := goodIn_r _ [5, 6, 7, 8, 9, 4, 10, 11, 12, 13, 14, 42, 43, 44, 45, 46, 47, 48, 49, 50, 51, 52, 53, 54, 55, 56, 57] (by decide +kernel) (by decide +kernel)
set_option maxRecDepth 20000 in
theorem gX6_gain_X6_asks : GoodIn wsX6_gain (wsV RX6 122 RX6 yX6_asks wsX6_asks) := goodIn_app (goodIn_of _ (by decide +kernel)) ggX6_gain_X6_asks
set_option maxRecDepth 20000 in
theorem ggX6_gain_X6_gainNow : GoodIn wsX6_gain wsX6_gainNow := goodIn_r _ [18, 19, 20, 21, 22, 23, 24, 4, 25, 26, 27, 28, 29, 30, 31, 32, 33, 34, 35, 36, 37, 38, 39, 40, 41, 42, 43, 44, 45, 46, 47, 48, 49, 50, 51, 52, 53, 54, 55, 56, 57] (by decide +kernel) (by decide +kernel)
set_option maxRecDepth 20000 in
theorem gX6_gain_X6_gainNow : GoodIn wsX6_gain (wsV RX6 116 RX6 yX6_gainNow wsX6_gainNow) := goodIn_app (goodIn_of _ (by decide +kernel)) ggX6_gain_X6_gainNow
theorem dX6_gain_0 : decode cX6_gain 0 = .ok (.aload_n 0, 1) := by decide +kernel
theorem dX6_gain_1 : decode cX6_gain 1 = .ok (.iload_n 1, 1) := by decide +kernel
theorem dX6_gain_2 : decode cX6_gain 2 = .ok (.invokevirtual 122, 3) := by decide +kernel
theorem dX6_gain_5 : decode cX6_gain 5 = .ok (.ifCond .eq 11, 3) := by decide +kernel
theorem dX6_gain_8 : decode cX6_gain 8 = .ok (.aload_n 0, 1) := by decide +kernel
theorem dX6_gain_9 : decode cX6_gain 9 = .ok (.iload_n 1, 1) := by decide +kernel
theorem dX6_gain_10 : decode cX6_gain 10 = .ok (.invokevirtual 116, 3) := by decide +kernel
theorem dX6_gain_13 : decode cX6_gain 13 = .ok (.goto 4, 3) := by decide +kernel
theorem dX6_gain_16 : decode cX6_gain 16 = .ok (.lconst 0, 1) := by decide +kernel
theorem dX6_gain_17 : decode cX6_gain 17 = .ok (.lreturn, 1) := by decide +kernel
set_option maxRecDepth 20000 in
theorem ggX6_exposure_X6_isCustomer : GoodIn wsX6_exposure wsX6_isCustomer := goodIn_r _ [5, 6, 7, 4, 8] (by decide +kernel) (by decide +kernel)
set_option maxRecDepth 20000 in
theorem gX6_exposure_X6_isCustomer : GoodIn wsX6_exposure (va_wsS RX6 78 yX6_isCustomer wsX6_isCustomer) := goodIn_app (goodIn_of _ (by decide +kernel)) ggX6_exposure_X6_isCustomer
set_option maxRecDepth 20000 in
theorem ggX6_exposure_X6_exposureOf : GoodIn wsX6_exposure wsX6_exposureOf := goodIn_r _ [12, 13, 14, 15, 4, 16, 17, 18, 19, 20, 21, 22, 23, 24, 25, 26, 27, 28, 29, 30, 31, 32, 33, 34, 35, 36, 37, 38, 39, 40, 41, 42, 43, 44, 45, 46, 47, 48, 49, 50, 51, 52, 53, 54, 55, 56, 57] (by decide +kernel) (by decide +kernel)
set_option maxRecDepth 20000 in
theorem gX6_exposure_X6_exposureOf : GoodIn wsX6_exposure (wsV RX6 105 RX6 yX6_exposureOf wsX6_exposureOf) := goodIn_app (goodIn_of _ (by decide +kernel)) ggX6_exposure_X6_exposureOf
theorem dX6_exposure_0 : decode cX6_exposure 0 = .ok (.aload_n 0, 1) := by decide +kernel
theorem dX6_exposure_1 : decode cX6_exposure 1 = .ok (.iload_n 1, 1) := by decide +kernel
theorem dX6_exposure_2 : decode cX6_exposure 2 = .ok (.invokestatic 78, 3) := by decide +kernel
theorem dX6_exposure_5 : decode cX6_exposure 5 = .ok (.ifCond .eq 7, 3) := by decide +kernel
theorem dX6_exposure_8 : decode cX6_exposure 8 = .ok (.iconst 0, 1) := by decide +kernel
theorem dX6_exposure_9 : decode cX6_exposure 9 = .ok (.goto 4, 3) := by decide +kernel
theorem dX6_exposure_12 : decode cX6_exposure 12 = .ok (.iconst 1, 1) := by decide +kernel
theorem dX6_exposure_13 : decode cX6_exposure 13 = .ok (.putfield 53, 3) := by decide +kernel
theorem dX6_exposure_16 : decode cX6_exposure 16 = .ok (.aload_n 0, 1) := by decide +kernel
theorem dX6_exposure_17 : decode cX6_exposure 17 = .ok (.getfield 53, 3) := by decide +kernel
theorem dX6_exposure_20 : decode cX6_exposure 20 = .ok (.ifCond .le 7, 3) := by decide +kernel
theorem dX6_exposure_23 : decode cX6_exposure 23 = .ok (.lconst 0, 1) := by decide +kernel
theorem dX6_exposure_24 : decode cX6_exposure 24 = .ok (.goto 8, 3) := by decide +kernel
theorem dX6_exposure_27 : decode cX6_exposure 27 = .ok (.aload_n 0, 1) := by decide +kernel
theorem dX6_exposure_28 : decode cX6_exposure 28 = .ok (.iload_n 1, 1) := by decide +kernel
theorem dX6_exposure_29 : decode cX6_exposure 29 = .ok (.invokevirtual 105, 3) := by decide +kernel
theorem dX6_exposure_32 : decode cX6_exposure 32 = .ok (.lreturn, 1) := by decide +kernel
set_option maxRecDepth 20000 in
theorem ggX6_settlementDay_X6_settles : GoodIn wsX6_settlementDay wsX6_settles := goodIn_r _ [6, 7, 8, 9, 10, 5, 11, 12, 13, 14, 15, 16, 17, 18, 19, 20, 21, 22, 23, 24, 25, 26, 27, 28] (by decide +kernel) (by decide +kernel)
set_option maxRecDepth 20000 in
theorem gX6_settlementDay_X6_settles : GoodIn wsX6_settlementDay (wsV RX6 100 RX6 yX6_settles wsX6_settles) := goodIn_app (goodIn_of _ (by decide +kernel)) ggX6_settlementDay_X6_settles
theorem dX6_settlementDay_0 : decode cX6_settlementDay 0 = .ok (.aload_n 0, 1) := by decide +kernel
theorem dX6_settlementDay_1 : decode cX6_settlementDay 1 = .ok (.iconst 0, 1) := by decide +kernel
theorem dX6_settlementDay_2 : decode cX6_settlementDay 2 = .ok (.putfield 53, 3) := by decide +kernel
theorem dX6_settlementDay_5 : decode cX6_settlementDay 5 = .ok (.aload_n 0, 1) := by decide +kernel
theorem dX6_settlementDay_6 : decode cX6_settlementDay 6 = .ok (.invokevirtual 100, 3) := by decide +kernel
theorem dX6_settlementDay_9 : decode cX6_settlementDay 9 = .ok (.ireturn, 1) := by decide +kernel
set_option maxRecDepth 20000 in
theorem ggX6_due_X6_isCustomer : GoodIn wsX6_due wsX6_isCustomer := goodIn_r _ [7, 8, 9, 6, 10] (by decide +kernel) (by decide +kernel)
set_option maxRecDepth 20000 in
theorem gX6_due_X6_isCustomer : GoodIn wsX6_due (va_wsS RX6 78 yX6_isCustomer wsX6_isCustomer) := goodIn_app (goodIn_of _ (by decide +kernel)) ggX6_due_X6_isCustomer
set_option maxRecDepth 20000 in
theorem ggX6_due_X6_in : GoodIn wsX6_due wsX6_in := goodIn_r _ [10] (by decide +kernel) (by decide +kernel)
set_option maxRecDepth 20000 in
theorem gX6_due_X6_in : GoodIn wsX6_due (va_wsS RX6 57 yX6_in wsX6_in) := goodIn_app (goodIn_of _ (by decide +kernel)) ggX6_due_X6_in
theorem dX6_due_0 : decode cX6_due 0 = .ok (.aload_n 0, 1) := by decide +kernel
theorem dX6_due_1 : decode cX6_due 1 = .ok (.iload_n 1, 1) := by decide +kernel
theorem dX6_due_2 : decode cX6_due 2 = .ok (.invokestatic 78, 3) := by decide +kernel
theorem dX6_due_5 : decode cX6_due 5 = .ok (.ifCond .ne 7, 3) := by decide +kernel
theorem dX6_due_8 : decode cX6_due 8 = .ok (.iconst 1, 1) := by decide +kernel
theorem dX6_due_9 : decode cX6_due 9 = .ok (.goto 27, 3) := by decide +kernel
theorem dX6_due_12 : decode cX6_due 12 = .ok (.iload_n 2, 1) := by decide +kernel
theorem dX6_due_13 : decode cX6_due 13 = .ok (.iconst 0, 1) := by decide +kernel
theorem dX6_due_14 : decode cX6_due 14 = .ok (.iconst 4, 1) := by decide +kernel
theorem dX6_due_15 : decode cX6_due 15 = .ok (.invokestatic 57, 3) := by decide +kernel
theorem dX6_due_18 : decode cX6_due 18 = .ok (.ifCond .eq 17, 3) := by decide +kernel
theorem dX6_due_21 : decode cX6_due 21 = .ok (.iload_n 3, 1) := by decide +kernel
theorem dX6_due_22 : decode cX6_due 22 = .ok (.iconst 1, 1) := by decide +kernel
theorem dX6_due_23 : decode cX6_due 23 = .ok (.bipush 20, 2) := by decide +kernel
theorem dX6_due_25 : decode cX6_due 25 = .ok (.invokestatic 57, 3) := by decide +kernel
theorem dX6_due_28 : decode cX6_due 28 = .ok (.ifCond .eq 7, 3) := by decide +kernel
theorem dX6_due_31 : decode cX6_due 31 = .ok (.iconst 0, 1) := by decide +kernel
theorem dX6_due_32 : decode cX6_due 32 = .ok (.goto 4, 3) := by decide +kernel
theorem dX6_due_35 : decode cX6_due 35 = .ok (.iconst 2, 1) := by decide +kernel
theorem dX6_due_36 : decode cX6_due 36 = .ok (.putfield 53, 3) := by decide +kernel
theorem dX6_due_39 : decode cX6_due 39 = .ok (.aload_n 0, 1) := by decide +kernel
theorem dX6_due_40 : decode cX6_due 40 = .ok (.getfield 53, 3) := by decide +kernel
theorem dX6_due_43 : decode cX6_due 43 = .ok (.ifCond .le 7, 3) := by decide +kernel
theorem dX6_due_46 : decode cX6_due 46 = .ok (.lconst 0, 1) := by decide +kernel
theorem dX6_due_47 : decode cX6_due 47 = .ok (.goto 23, 3) := by decide +kernel
theorem dX6_due_50 : decode cX6_due 50 = .ok (.aload_n 0, 1) := by decide +kernel
theorem dX6_due_51 : decode cX6_due 51 = .ok (.getfield 47, 3) := by decide +kernel
theorem dX6_due_54 : decode cX6_due 54 = .ok (.bipush 25, 2) := by decide +kernel
theorem dX6_due_56 : decode cX6_due 56 = .ok (.aload_n 0, 1) := by decide +kernel
theorem dX6_due_57 : decode cX6_due 57 = .ok (.getfield 64, 3) := by decide +kernel
theorem dX6_due_60 : decode cX6_due 60 = .ok (.iload_n 3, 1) := by decide +kernel
theorem dX6_due_61 : decode cX6_due 61 = .ok (.iadd, 1) := by decide +kernel
theorem dX6_due_62 : decode cX6_due 62 = .ok (.imul, 1) := by decide +kernel
theorem dX6_due_63 : decode cX6_due 63 = .ok (.iconst 5, 1) := by decide +kernel
theorem dX6_due_64 : decode cX6_due 64 = .ok (.iload_n 1, 1) := by decide +kernel
theorem dX6_due_65 : decode cX6_due 65 = .ok (.imul, 1) := by decide +kernel
theorem dX6_due_66 : decode cX6_due 66 = .ok (.iadd, 1) := by decide +kernel
theorem dX6_due_67 : decode cX6_due 67 = .ok (.iload_n 2, 1) := by decide +kernel
theorem dX6_due_68 : decode cX6_due 68 = .ok (.iadd, 1) := by decide +kernel
theorem dX6_due_69 : decode cX6_due 69 = .ok (.laload, 1) := by decide +kernel
theorem dX6_due_70 : decode cX6_due 70 = .ok (.lreturn, 1) := by decide +kernel
set_option maxRecDepth 20000 in
theorem ggX6_balance_X6_isCustomer : GoodIn wsX6_balance wsX6_isCustomer := goodIn_r _ [6, 7, 8, 5, 9] (by decide +kernel) (by decide +kernel)
set_option maxRecDepth 20000 in
theorem gX6_balance_X6_isCustomer : GoodIn wsX6_balance (va_wsS RX6 78 yX6_isCustomer wsX6_isCustomer) := goodIn_app (goodIn_of _ (by decide +kernel)) ggX6_balance_X6_isCustomer
set_option maxRecDepth 20000 in
theorem ggX6_balance_X6_in : GoodIn wsX6_balance wsX6_in := goodIn_r _ [9] (by decide +kernel) (by decide +kernel)
set_option maxRecDepth 20000 in
theorem gX6_balance_X6_in : GoodIn wsX6_balance (va_wsS RX6 57 yX6_in wsX6_in) := goodIn_app (goodIn_of _ (by decide +kernel)) ggX6_balance_X6_in
theorem dX6_balance_0 : decode cX6_balance 0 = .ok (.aload_n 0, 1) := by decide +kernel
theorem dX6_balance_1 : decode cX6_balance 1 = .ok (.iload_n 1, 1) := by decide +kernel
theorem dX6_balance_2 : decode cX6_balance 2 = .ok (.invokestatic 78, 3) := by decide +kernel
theorem dX6_balance_5 : decode cX6_balance 5 = .ok (.ifCond .ne 7, 3) := by decide +kernel
theorem dX6_balance_8 : decode cX6_balance 8 = .ok (.iconst 1, 1) := by decide +kernel
theorem dX6_balance_9 : decode cX6_balance 9 = .ok (.goto 17, 3) := by decide +kernel
theorem dX6_balance_12 : decode cX6_balance 12 = .ok (.iload_n 2, 1) := by decide +kernel
theorem dX6_balance_13 : decode cX6_balance 13 = .ok (.iconst 0, 1) := by decide +kernel
theorem dX6_balance_14 : decode cX6_balance 14 = .ok (.iconst 4, 1) := by decide +kernel
theorem dX6_balance_15 : decode cX6_balance 15 = .ok (.invokestatic 57, 3) := by decide +kernel
theorem dX6_balance_18 : decode cX6_balance 18 = .ok (.ifCond .eq 7, 3) := by decide +kernel
theorem dX6_balance_21 : decode cX6_balance 21 = .ok (.iconst 0, 1) := by decide +kernel
theorem dX6_balance_22 : decode cX6_balance 22 = .ok (.goto 4, 3) := by decide +kernel
theorem dX6_balance_25 : decode cX6_balance 25 = .ok (.iconst 2, 1) := by decide +kernel
theorem dX6_balance_26 : decode cX6_balance 26 = .ok (.putfield 53, 3) := by decide +kernel
theorem dX6_balance_29 : decode cX6_balance 29 = .ok (.aload_n 0, 1) := by decide +kernel
theorem dX6_balance_30 : decode cX6_balance 30 = .ok (.getfield 53, 3) := by decide +kernel
theorem dX6_balance_33 : decode cX6_balance 33 = .ok (.ifCond .le 7, 3) := by decide +kernel
theorem dX6_balance_36 : decode cX6_balance 36 = .ok (.lconst 0, 1) := by decide +kernel
theorem dX6_balance_37 : decode cX6_balance 37 = .ok (.goto 13, 3) := by decide +kernel
theorem dX6_balance_40 : decode cX6_balance 40 = .ok (.aload_n 0, 1) := by decide +kernel
theorem dX6_balance_41 : decode cX6_balance 41 = .ok (.getfield 50, 3) := by decide +kernel
theorem dX6_balance_44 : decode cX6_balance 44 = .ok (.iconst 5, 1) := by decide +kernel
theorem dX6_balance_45 : decode cX6_balance 45 = .ok (.iload_n 1, 1) := by decide +kernel
theorem dX6_balance_46 : decode cX6_balance 46 = .ok (.imul, 1) := by decide +kernel
theorem dX6_balance_47 : decode cX6_balance 47 = .ok (.iload_n 2, 1) := by decide +kernel
theorem dX6_balance_48 : decode cX6_balance 48 = .ok (.iadd, 1) := by decide +kernel
theorem dX6_balance_49 : decode cX6_balance 49 = .ok (.laload, 1) := by decide +kernel
theorem dX6_balance_50 : decode cX6_balance 50 = .ok (.lreturn, 1) := by decide +kernel
set_option maxRecDepth 20000 in
theorem ggX6_passes_X6_closes : GoodIn wsX6_passes wsX6_closes := goodIn_r _ [11, 12, 2, 13, 14, 15, 10, 16, 17, 3, 18, 19, 20, 21, 22, 23, 4, 24, 25, 26, 27, 28, 29, 30, 31, 32, 33, 34, 35, 36, 37, 38, 39, 40, 6, 41, 42, 43, 44, 45, 46, 47, 48, 49, 50, 51, 52, 53, 54, 55, 56, 57, 58, 59, 60, 61, 62, 63, 64, 65] (by decide +kernel) (by decide +kernel)
set_option maxRecDepth 20000 in
theorem gX6_passes_X6_closes : GoodIn wsX6_passes (wsV RX6 119 RX6 yX6_closes wsX6_closes) := goodIn_app (goodIn_of _ (by decide +kernel)) ggX6_passes_X6_closes
theorem dX6_passes_0 : decode cX6_passes 0 = .ok (.iconst 0, 1) := by decide +kernel
theorem dX6_passes_1 : decode cX6_passes 1 = .ok (.istore_n 1, 1) := by decide +kernel
theorem dX6_passes_2 : decode cX6_passes 2 = .ok (.iconst 0, 1) := by decide +kernel
theorem dX6_passes_3 : decode cX6_passes 3 = .ok (.istore_n 2, 1) := by decide +kernel
theorem dX6_passes_4 : decode cX6_passes 4 = .ok (.iload_n 2, 1) := by decide +kernel
theorem dX6_passes_5 : decode cX6_passes 5 = .ok (.aload_n 0, 1) := by decide +kernel
theorem dX6_passes_6 : decode cX6_passes 6 = .ok (.getfield 61, 3) := by decide +kernel
theorem dX6_passes_9 : decode cX6_passes 9 = .ok (.if_icmp .ge 40, 3) := by decide +kernel
theorem dX6_passes_12 : decode cX6_passes 12 = .ok (.aload_n 0, 1) := by decide +kernel
theorem dX6_passes_13 : decode cX6_passes 13 = .ok (.getfield 35, 3) := by decide +kernel
theorem dX6_passes_16 : decode cX6_passes 16 = .ok (.iload_n 2, 1) := by decide +kernel
theorem dX6_passes_17 : decode cX6_passes 17 = .ok (.iaload, 1) := by decide +kernel
theorem dX6_passes_18 : decode cX6_passes 18 = .ok (.ifCond .le 25, 3) := by decide +kernel
theorem dX6_passes_21 : decode cX6_passes 21 = .ok (.aload_n 0, 1) := by decide +kernel
theorem dX6_passes_22 : decode cX6_passes 22 = .ok (.getfield 41, 3) := by decide +kernel
theorem dX6_passes_25 : decode cX6_passes 25 = .ok (.iload_n 2, 1) := by decide +kernel
theorem dX6_passes_26 : decode cX6_passes 26 = .ok (.iaload, 1) := by decide +kernel
theorem dX6_passes_27 : decode cX6_passes 27 = .ok (.aload_n 0, 1) := by decide +kernel
theorem dX6_passes_28 : decode cX6_passes 28 = .ok (.getfield 64, 3) := by decide +kernel
theorem dX6_passes_31 : decode cX6_passes 31 = .ok (.if_icmp .ne 12, 3) := by decide +kernel
theorem dX6_passes_34 : decode cX6_passes 34 = .ok (.aload_n 0, 1) := by decide +kernel
theorem dX6_passes_35 : decode cX6_passes 35 = .ok (.iload_n 2, 1) := by decide +kernel
theorem dX6_passes_36 : decode cX6_passes 36 = .ok (.invokevirtual 119, 3) := by decide +kernel
theorem dX6_passes_39 : decode cX6_passes 39 = .ok (.pop2, 1) := by decide +kernel
theorem dX6_passes_40 : decode cX6_passes 40 = .ok (.iinc 1 1, 3) := by decide +kernel
theorem dX6_passes_43 : decode cX6_passes 43 = .ok (.iinc 2 1, 3) := by decide +kernel
theorem dX6_passes_46 : decode cX6_passes 46 = .ok (.goto (-42), 3) := by decide +kernel
theorem dX6_passes_49 : decode cX6_passes 49 = .ok (.aload_n 0, 1) := by decide +kernel
theorem dX6_passes_50 : decode cX6_passes 50 = .ok (.dup, 1) := by decide +kernel
theorem dX6_passes_51 : decode cX6_passes 51 = .ok (.getfield 64, 3) := by decide +kernel
theorem dX6_passes_54 : decode cX6_passes 54 = .ok (.iconst 1, 1) := by decide +kernel
theorem dX6_passes_55 : decode cX6_passes 55 = .ok (.iadd, 1) := by decide +kernel
theorem dX6_passes_56 : decode cX6_passes 56 = .ok (.putfield 64, 3) := by decide +kernel
theorem dX6_passes_59 : decode cX6_passes 59 = .ok (.iconst 0, 1) := by decide +kernel
theorem dX6_passes_60 : decode cX6_passes 60 = .ok (.istore_n 2, 1) := by decide +kernel
theorem dX6_passes_61 : decode cX6_passes 61 = .ok (.iload_n 2, 1) := by decide +kernel
theorem dX6_passes_62 : decode cX6_passes 62 = .ok (.bipush 25, 2) := by decide +kernel
theorem dX6_passes_64 : decode cX6_passes 64 = .ok (.if_icmp .ge 32, 3) := by decide +kernel
theorem dX6_passes_67 : decode cX6_passes 67 = .ok (.aload_n 0, 1) := by decide +kernel
theorem dX6_passes_68 : decode cX6_passes 68 = .ok (.getfield 50, 3) := by decide +kernel
theorem dX6_passes_71 : decode cX6_passes 71 = .ok (.iload_n 2, 1) := by decide +kernel
theorem dX6_passes_72 : decode cX6_passes 72 = .ok (.dup2, 1) := by decide +kernel
theorem dX6_passes_73 : decode cX6_passes 73 = .ok (.laload, 1) := by decide +kernel
theorem dX6_passes_74 : decode cX6_passes 74 = .ok (.aload_n 0, 1) := by decide +kernel
theorem dX6_passes_75 : decode cX6_passes 75 = .ok (.getfield 47, 3) := by decide +kernel
theorem dX6_passes_78 : decode cX6_passes 78 = .ok (.bipush 25, 2) := by decide +kernel
theorem dX6_passes_80 : decode cX6_passes 80 = .ok (.aload_n 0, 1) := by decide +kernel
theorem dX6_passes_81 : decode cX6_passes 81 = .ok (.getfield 64, 3) := by decide +kernel
theorem dX6_passes_84 : decode cX6_passes 84 = .ok (.imul, 1) := by decide +kernel
theorem dX6_passes_85 : decode cX6_passes 85 = .ok (.iload_n 2, 1) := by decide +kernel
theorem dX6_passes_86 : decode cX6_passes 86 = .ok (.iadd, 1) := by decide +kernel
theorem dX6_passes_87 : decode cX6_passes 87 = .ok (.laload, 1) := by decide +kernel
theorem dX6_passes_88 : decode cX6_passes 88 = .ok (.ladd, 1) := by decide +kernel
theorem dX6_passes_89 : decode cX6_passes 89 = .ok (.lastore, 1) := by decide +kernel
theorem dX6_passes_90 : decode cX6_passes 90 = .ok (.iinc 2 1, 3) := by decide +kernel
theorem dX6_passes_93 : decode cX6_passes 93 = .ok (.goto (-32), 3) := by decide +kernel
theorem dX6_passes_96 : decode cX6_passes 96 = .ok (.iload_n 1, 1) := by decide +kernel
theorem dX6_passes_97 : decode cX6_passes 97 = .ok (.ireturn, 1) := by decide +kernel
set_option maxRecDepth 20000 in
theorem ggX6_pass_X6_in : GoodIn wsX6_pass wsX6_in := goodIn_r _ [6] (by decide +kernel) (by decide +kernel)
set_option maxRecDepth 20000 in
theorem gX6_pass_X6_in : GoodIn wsX6_pass (va_wsS RX6 57 yX6_in wsX6_in) := goodIn_app (goodIn_of _ (by decide +kernel)) ggX6_pass_X6_in
set_option maxRecDepth 20000 in
theorem ggX6_pass_X6_passes : GoodIn wsX6_pass wsX6_passes := goodIn_r _ [10, 11, 12, 13, 1, 14, 15, 16, 17, 18, 5, 19, 20, 21, 22, 23, 24, 25, 26, 27, 28, 29, 30, 31, 32, 33, 34, 35, 36, 37, 38, 39, 40, 41, 42, 43, 44, 45, 46, 47, 48, 49, 50, 51, 52, 53, 54, 55, 56, 57, 58, 59, 60, 61, 62, 63, 64, 65, 66, 67, 68, 69, 70, 71, 72, 73] (by decide +kernel) (by decide +kernel)
set_option maxRecDepth 20000 in
theorem gX6_pass_X6_passes : GoodIn wsX6_pass (wsV RX6 125 RX6 yX6_passes wsX6_passes) := goodIn_app (goodIn_of _ (by decide +kernel)) ggX6_pass_X6_passes
theorem dX6_pass_0 : decode cX6_pass 0 = .ok (.aload_n 0, 1) := by decide +kernel
theorem dX6_pass_1 : decode cX6_pass 1 = .ok (.iload_n 1, 1) := by decide +kernel
theorem dX6_pass_2 : decode cX6_pass 2 = .ok (.iconst 1, 1) := by decide +kernel
theorem dX6_pass_3 : decode cX6_pass 3 = .ok (.bipush 100, 2) := by decide +kernel
theorem dX6_pass_5 : decode cX6_pass 5 = .ok (.invokestatic 57, 3) := by decide +kernel
theorem dX6_pass_8 : decode cX6_pass 8 = .ok (.ifCond .ne 7, 3) := by decide +kernel
theorem dX6_pass_11 : decode cX6_pass 11 = .ok (.iconst 1, 1) := by decide +kernel
theorem dX6_pass_12 : decode cX6_pass 12 = .ok (.goto 20, 3) := by decide +kernel
theorem dX6_pass_15 : decode cX6_pass 15 = .ok (.aload_n 0, 1) := by decide +kernel
theorem dX6_pass_16 : decode cX6_pass 16 = .ok (.getfield 64, 3) := by decide +kernel
theorem dX6_pass_19 : decode cX6_pass 19 = .ok (.iload_n 1, 1) := by decide +kernel
theorem dX6_pass_20 : decode cX6_pass 20 = .ok (.iadd, 1) := by decide +kernel
theorem dX6_pass_21 : decode cX6_pass 21 = .ok (.sipush 1000, 3) := by decide +kernel
theorem dX6_pass_24 : decode cX6_pass 24 = .ok (.if_icmp .le 7, 3) := by decide +kernel
theorem dX6_pass_27 : decode cX6_pass 27 = .ok (.iconst 2, 1) := by decide +kernel
theorem dX6_pass_28 : decode cX6_pass 28 = .ok (.goto 4, 3) := by decide +kernel
theorem dX6_pass_31 : decode cX6_pass 31 = .ok (.iconst 0, 1) := by decide +kernel
theorem dX6_pass_32 : decode cX6_pass 32 = .ok (.putfield 53, 3) := by decide +kernel
theorem dX6_pass_35 : decode cX6_pass 35 = .ok (.iconst 0, 1) := by decide +kernel
theorem dX6_pass_36 : decode cX6_pass 36 = .ok (.istore_n 2, 1) := by decide +kernel
theorem dX6_pass_37 : decode cX6_pass 37 = .ok (.iconst 0, 1) := by decide +kernel
theorem dX6_pass_38 : decode cX6_pass 38 = .ok (.istore_n 3, 1) := by decide +kernel
theorem dX6_pass_39 : decode cX6_pass 39 = .ok (.iload_n 3, 1) := by decide +kernel
theorem dX6_pass_40 : decode cX6_pass 40 = .ok (.iload_n 1, 1) := by decide +kernel
theorem dX6_pass_41 : decode cX6_pass 41 = .ok (.if_icmp .ge 23, 3) := by decide +kernel
theorem dX6_pass_44 : decode cX6_pass 44 = .ok (.aload_n 0, 1) := by decide +kernel
theorem dX6_pass_45 : decode cX6_pass 45 = .ok (.getfield 53, 3) := by decide +kernel
theorem dX6_pass_48 : decode cX6_pass 48 = .ok (.ifCond .ne 16, 3) := by decide +kernel
theorem dX6_pass_51 : decode cX6_pass 51 = .ok (.iload_n 2, 1) := by decide +kernel
theorem dX6_pass_52 : decode cX6_pass 52 = .ok (.aload_n 0, 1) := by decide +kernel
theorem dX6_pass_53 : decode cX6_pass 53 = .ok (.invokevirtual 125, 3) := by decide +kernel
theorem dX6_pass_56 : decode cX6_pass 56 = .ok (.iadd, 1) := by decide +kernel
theorem dX6_pass_57 : decode cX6_pass 57 = .ok (.istore_n 2, 1) := by decide +kernel
theorem dX6_pass_58 : decode cX6_pass 58 = .ok (.iinc 3 1, 3) := by decide +kernel
theorem dX6_pass_61 : decode cX6_pass 61 = .ok (.goto (-22), 3) := by decide +kernel
theorem dX6_pass_64 : decode cX6_pass 64 = .ok (.iload_n 2, 1) := by decide +kernel
theorem dX6_pass_65 : decode cX6_pass 65 = .ok (.ireturn, 1) := by decide +kernel
theorem dX6_today_0 : decode cX6_today 0 = .ok (.aload_n 0, 1) := by decide +kernel
theorem dX6_today_1 : decode cX6_today 1 = .ok (.iconst 0, 1) := by decide +kernel
theorem dX6_today_2 : decode cX6_today 2 = .ok (.putfield 53, 3) := by decide +kernel
theorem dX6_today_5 : decode cX6_today 5 = .ok (.aload_n 0, 1) := by decide +kernel
theorem dX6_today_6 : decode cX6_today 6 = .ok (.getfield 64, 3) := by decide +kernel
theorem dX6_today_9 : decode cX6_today 9 = .ok (.ireturn, 1) := by decide +kernel
theorem dJ9_max_7cf53_0 : decode cJ9_max_7cf53 0 = .ok (.iload_n 0, 1) := by decide +kernel
theorem dJ9_max_7cf53_1 : decode cJ9_max_7cf53 1 = .ok (.iload_n 1, 1) := by decide +kernel
theorem dJ9_max_7cf53_2 : decode cJ9_max_7cf53 2 = .ok (.if_icmp .lt 7, 3) := by decide +kernel
theorem dJ9_max_7cf53_5 : decode cJ9_max_7cf53 5 = .ok (.iload_n 0, 1) := by decide +kernel
theorem dJ9_max_7cf53_6 : decode cJ9_max_7cf53 6 = .ok (.goto 4, 3) := by decide +kernel
theorem dJ9_max_7cf53_9 : decode cJ9_max_7cf53 9 = .ok (.iload_n 1, 1) := by decide +kernel
theorem dJ9_max_7cf53_10 : decode cJ9_max_7cf53 10 = .ok (.ireturn, 1) := by decide +kernel
theorem dJ9_max_f86c9_0 : decode cJ9_max_f86c9 0 = .ok (.lload_n 0, 1) := by decide +kernel
theorem dJ9_max_f86c9_1 : decode cJ9_max_f86c9 1 = .ok (.lload_n 2, 1) := by decide +kernel
theorem dJ9_max_f86c9_2 : decode cJ9_max_f86c9 2 = .ok (.lcmp, 1) := by decide +kernel
theorem dJ9_max_f86c9_3 : decode cJ9_max_f86c9 3 = .ok (.ifCond .lt 7, 3) := by decide +kernel
theorem dJ9_max_f86c9_6 : decode cJ9_max_f86c9 6 = .ok (.lload_n 0, 1) := by decide +kernel
theorem dJ9_max_f86c9_7 : decode cJ9_max_f86c9 7 = .ok (.goto 4, 3) := by decide +kernel
theorem dJ9_max_f86c9_10 : decode cJ9_max_f86c9 10 = .ok (.lload_n 2, 1) := by decide +kernel
theorem dJ9_max_f86c9_11 : decode cJ9_max_f86c9 11 = .ok (.lreturn, 1) := by decide +kernel
set_option maxRecDepth 20000 in
theorem ggL_setRate_X5_setRate : GoodIn wsL_setRate wsX5_setRate := goodIn_ca (goodIn_ca (goodIn_r _ [7, 8, 9, 10, 11, 6, 12, 13, 14, 15, 16, 17, 18, 19, 20, 21, 22, 23, 24, 25, 26, 27, 28, 29, 30, 31] (by decide +kernel) (by decide +kernel)) (goodIn_sub (fun _ h => List.mem_cons_of_mem _ (List.mem_append_left _ (List.mem_append_right _ h))) (by decide +kernel))) (goodIn_sub (fun _ h => List.mem_cons_of_mem _ (List.mem_append_right _ h)) (by decide +kernel))
set_option maxRecDepth 20000 in
theorem gL_setRate_X5_setRate : GoodIn wsL_setRate (wsV RL 7 RX5 yX5_setRate wsX5_setRate) := goodIn_app (goodIn_of _ (by decide +kernel)) ggL_setRate_X5_setRate
end
section
set_option maxRecDepth 20000 in
theorem wsL_law0_r1_in : ∀ w ∈ wsL_law0_r1, w ∈ lw_tbl := fun w h => (goodIn_p wsL_law0_r1 [42, 45] (by decide +kernel) (by decide +kernel) w h).1
set_option maxRecDepth 20000 in
theorem wsL_law0_r2_in : ∀ w ∈ wsL_law0_r2, w ∈ lw_tbl := fun w h => (goodIn_p wsL_law0_r2 [50, 66, 86] (by decide +kernel) (by decide +kernel) w h).1
set_option maxRecDepth 20000 in
theorem wsL_law0_r3_in : ∀ w ∈ wsL_law0_r3, w ∈ lw_tbl := fun w h => (goodIn_p wsL_law0_r3 [94, 551] (by decide +kernel) (by decide +kernel) w h).1
set_option maxRecDepth 20000 in
theorem wsL_law0_r4_in : ∀ w ∈ wsL_law0_r4, w ∈ lw_tbl := fun w h => (goodIn_p wsL_law0_r4 [158, 162, 145, 235] (by decide +kernel) (by decide +kernel) w h).1
set_option maxRecDepth 20000 in
theorem wsL_law0_r5_in : ∀ w ∈ wsL_law0_r5, w ∈ lw_tbl := fun w h => (goodIn_p wsL_law0_r5 [611, 614, 617, 607, 258] (by decide +kernel) (by decide +kernel) w h).1
set_option maxRecDepth 20000 in
theorem wsL_law0_r6_in : ∀ w ∈ wsL_law0_r6, w ∈ lw_tbl := fun w h => (goodIn_p wsL_law0_r6 [622, 266, 286, 626] (by decide +kernel) (by decide +kernel) w h).1
set_option maxRecDepth 20000 in
theorem wsL_law0_r7_in : ∀ w ∈ wsL_law0_r7, w ∈ lw_tbl := fun w h => (goodIn_p wsL_law0_r7 [293, 297, 630, 633] (by decide +kernel) (by decide +kernel) w h).1
set_option maxRecDepth 20000 in
theorem wsL_law0_r8_in : ∀ w ∈ wsL_law0_r8, w ∈ lw_tbl := fun w h => (goodIn_p wsL_law0_r8 [306, 310, 314, 317, 638, 642] (by decide +kernel) (by decide +kernel) w h).1
set_option maxRecDepth 20000 in
theorem wsL_law0_r9_in : ∀ w ∈ wsL_law0_r9, w ∈ lw_tbl := fun w h => (goodIn_p wsL_law0_r9 [645, 324, 330] (by decide +kernel) (by decide +kernel) w h).1
set_option maxRecDepth 20000 in
theorem wsL_law0_r10_in : ∀ w ∈ wsL_law0_r10, w ∈ lw_tbl := fun w h => (goodIn_p wsL_law0_r10 [364, 368, 372, 376, 382, 385] (by decide +kernel) (by decide +kernel) w h).1
set_option maxRecDepth 20000 in
theorem wsL_law0_r11_in : ∀ w ∈ wsL_law0_r11, w ∈ lw_tbl := fun w h => (goodIn_p wsL_law0_r11 [389, 392, 649, 654, 658, 662] (by decide +kernel) (by decide +kernel) w h).1
set_option maxRecDepth 20000 in
theorem wsL_law0_r12_in : ∀ w ∈ wsL_law0_r12, w ∈ lw_tbl := fun w h => (goodIn_p wsL_law0_r12 [665, 400, 404, 409] (by decide +kernel) (by decide +kernel) w h).1
end
section
set_option maxRecDepth 20000 in
theorem wsL_law0_r13_in : ∀ w ∈ wsL_law0_r13, w ∈ lw_tbl := fun w h => (goodIn_p wsL_law0_r13 [138, 142, 415, 420, 670, 674] (by decide +kernel) (by decide +kernel) w h).1
set_option maxRecDepth 20000 in
theorem wsL_law0_r14_in : ∀ w ∈ wsL_law0_r14, w ∈ lw_tbl := fun w h => (goodIn_p wsL_law0_r14 [678, 682, 686, 428, 431, 437] (by decide +kernel) (by decide +kernel) w h).1
set_option maxRecDepth 20000 in
theorem wsL_law0_r15_in : ∀ w ∈ wsL_law0_r15, w ∈ lw_tbl := fun w h => (goodIn_p wsL_law0_r15 [441, 445, 690, 694] (by decide +kernel) (by decide +kernel) w h).1
set_option maxRecDepth 20000 in
theorem wsL_law0_r16_in : ∀ w ∈ wsL_law0_r16, w ∈ lw_tbl := fun w h => (goodIn_p wsL_law0_r16 [454, 458, 698, 702, 465, 706] (by decide +kernel) (by decide +kernel) w h).1
set_option maxRecDepth 20000 in
theorem wsL_law0_r17_in : ∀ w ∈ wsL_law0_r17, w ∈ lw_tbl := fun w h => (goodIn_p wsL_law0_r17 [710, 472, 714, 479] (by decide +kernel) (by decide +kernel) w h).1
set_option maxRecDepth 20000 in
theorem wsL_law0_r18_in : ∀ w ∈ wsL_law0_r18, w ∈ lw_tbl := fun w h => (goodIn_p wsL_law0_r18 [718, 486, 722, 493, 726] (by decide +kernel) (by decide +kernel) w h).1
set_option maxRecDepth 20000 in
theorem wsL_law0_r19_in : ∀ w ∈ wsL_law0_r19, w ∈ lw_tbl := fun w h => (goodIn_p wsL_law0_r19 [134, 730, 500, 504, 508] (by decide +kernel) (by decide +kernel) w h).1
set_option maxRecDepth 20000 in
theorem wsL_law0_r20_in : ∀ w ∈ wsL_law0_r20, w ∈ lw_tbl := fun w h => (goodIn_p wsL_law0_r20 [512, 734, 519, 738] (by decide +kernel) (by decide +kernel) w h).1
set_option maxRecDepth 20000 in
theorem wsL_law0_r21_in : ∀ w ∈ wsL_law0_r21, w ∈ lw_tbl := fun w h => (goodIn_p wsL_law0_r21 [527, 532, 536, 540, 544, 742] (by decide +kernel) (by decide +kernel) w h).1
set_option maxRecDepth 20000 in
theorem wsL_law0_r22_in : ∀ w ∈ wsL_law0_r22, w ∈ lw_tbl := fun w h => (goodIn_p wsL_law0_r22 [746, 149, 750] (by decide +kernel) (by decide +kernel) w h).1
theorem in_wsX50 : ∀ w ∈ wsX50, w ∈ lw_tbl := by decide +kernel
theorem in_wsX60 : ∀ w ∈ wsX60, w ∈ lw_tbl := by decide +kernel
theorem in_wsX10 : ∀ w ∈ wsX10, w ∈ lw_tbl := by decide +kernel
theorem in_wsX20 : ∀ w ∈ wsX20, w ∈ lw_tbl := by decide +kernel
theorem in_wsX30 : ∀ w ∈ wsX30, w ∈ lw_tbl := by decide +kernel
theorem in_wsX00 : ∀ w ∈ wsX00, w ∈ lw_tbl := by decide +kernel
theorem in_wsX40 : ∀ w ∈ wsX40, w ∈ lw_tbl := by decide +kernel
theorem wsL_law_in0 : ∀ w ∈ wsL_law0, w ∈ lw_tbl := by
  intro w h
  unfold wsL_law0 at h
  rcases List.mem_append.mp h with h | h
  case inr => exact absurd h List.not_mem_nil
  rcases List.mem_append.mp h with h | h
  case inr => exact in_wsX40 w h
  rcases List.mem_append.mp h with h | h
  case inr => exact in_wsX00 w h
  rcases List.mem_append.mp h with h | h
  case inr => exact in_wsX30 w h
  rcases List.mem_append.mp h with h | h
  case inr => exact in_wsX20 w h
  rcases List.mem_append.mp h with h | h
  case inr => exact in_wsX10 w h
  rcases List.mem_append.mp h with h | h
  case inr => exact in_wsX60 w h
  rcases List.mem_append.mp h with h | h
  case inr => exact in_wsX50 w h
  rcases List.mem_append.mp h with h | h
  case inl => exact wsL_law0_r1_in w h
  rcases List.mem_append.mp h with h | h
  case inl => exact wsL_law0_r2_in w h
  rcases List.mem_append.mp h with h | h
  case inl => exact wsL_law0_r3_in w h
  rcases List.mem_append.mp h with h | h
  case inl => exact wsL_law0_r4_in w h
  rcases List.mem_append.mp h with h | h
  case inl => exact wsL_law0_r5_in w h
  rcases List.mem_append.mp h with h | h
  case inl => exact wsL_law0_r6_in w h
  rcases List.mem_append.mp h with h | h
  case inl => exact wsL_law0_r7_in w h
  rcases List.mem_append.mp h with h | h
  case inl => exact wsL_law0_r8_in w h
  rcases List.mem_append.mp h with h | h
  case inl => exact wsL_law0_r9_in w h
  rcases List.mem_append.mp h with h | h
  case inl => exact wsL_law0_r10_in w h
  rcases List.mem_append.mp h with h | h
  case inl => exact wsL_law0_r11_in w h
  rcases List.mem_append.mp h with h | h
  case inl => exact wsL_law0_r12_in w h
  rcases List.mem_append.mp h with h | h
  case inl => exact wsL_law0_r13_in w h
  rcases List.mem_append.mp h with h | h
  case inl => exact wsL_law0_r14_in w h
  rcases List.mem_append.mp h with h | h
  case inl => exact wsL_law0_r15_in w h
  rcases List.mem_append.mp h with h | h
  case inl => exact wsL_law0_r16_in w h
  rcases List.mem_append.mp h with h | h
  case inl => exact wsL_law0_r17_in w h
  rcases List.mem_append.mp h with h | h
  case inl => exact wsL_law0_r18_in w h
  rcases List.mem_append.mp h with h | h
  case inl => exact wsL_law0_r19_in w h
  rcases List.mem_append.mp h with h | h
  case inl => exact wsL_law0_r20_in w h
  rcases List.mem_append.mp h with h | h
  case inl => exact wsL_law0_r21_in w h
  exact wsL_law0_r22_in w h
theorem wsL_law_x0 : ∀ w ∈ (vx_atS RX5 204 "java/lang/IndexOutOfBoundsException" ["java/lang/RuntimeException", "java/lang/Exception"]).filter goodWord, w ∈ lw_tbl := by decide +kernel
theorem wsL_law_x1 : ∀ w ∈ (vx_atS RX5 213 "java/lang/IllegalArgumentException" ["java/lang/RuntimeException", "java/lang/Exception"]).filter goodWord, w ∈ lw_tbl := by decide +kernel
theorem wsL_law_x2 : ∀ w ∈ (vx_atS RX5 61 "java/lang/IllegalStateException" ["java/lang/RuntimeException", "java/lang/Exception"]).filter goodWord, w ∈ lw_tbl := by decide +kernel
theorem wsL_law_in : ∀ w ∈ wsL_law, w ∈ lw_tbl := fun w h => (List.mem_append.mp h).elim (fun h => (List.mem_append.mp h).elim (fun h => (List.mem_append.mp h).elim (fun h => wsL_law_in0 w h) (fun h => wsL_law_x0 w h)) (fun h => wsL_law_x1 w h)) (fun h => wsL_law_x2 w h)
theorem inlX0 : ∀ w ∈ wsX00, w ∈ wsL_law := fun _ h => List.mem_append_left _ (List.mem_append_left _ (List.mem_append_left _ (List.mem_append_left _ (List.mem_append_left _ (List.mem_append_right _ h)))))
theorem inX0 : ∀ w ∈ wsX00, w ∈ lw_tbl := fun w h => wsL_law_in w (inlX0 w h)
theorem inlX1 : ∀ w ∈ wsX10, w ∈ wsL_law := fun _ h => List.mem_append_left _ (List.mem_append_left _ (List.mem_append_left _ (List.mem_append_left _ (List.mem_append_left _ (List.mem_append_left _ (List.mem_append_left _ (List.mem_append_left _ (List.mem_append_right _ h))))))))
theorem inX1 : ∀ w ∈ wsX10, w ∈ lw_tbl := fun w h => wsL_law_in w (inlX1 w h)
theorem inlX2 : ∀ w ∈ wsX20, w ∈ wsL_law := fun _ h => List.mem_append_left _ (List.mem_append_left _ (List.mem_append_left _ (List.mem_append_left _ (List.mem_append_left _ (List.mem_append_left _ (List.mem_append_left _ (List.mem_append_right _ h)))))))
theorem inX2 : ∀ w ∈ wsX20, w ∈ lw_tbl := fun w h => wsL_law_in w (inlX2 w h)
theorem inlX3 : ∀ w ∈ wsX30, w ∈ wsL_law := fun _ h => List.mem_append_left _ (List.mem_append_left _ (List.mem_append_left _ (List.mem_append_left _ (List.mem_append_left _ (List.mem_append_left _ (List.mem_append_right _ h))))))
theorem inX3 : ∀ w ∈ wsX30, w ∈ lw_tbl := fun w h => wsL_law_in w (inlX3 w h)
theorem inlX4 : ∀ w ∈ wsX40, w ∈ wsL_law := fun _ h => List.mem_append_left _ (List.mem_append_left _ (List.mem_append_left _ (List.mem_append_left _ (List.mem_append_right _ h))))
theorem inX4 : ∀ w ∈ wsX40, w ∈ lw_tbl := fun w h => wsL_law_in w (inlX4 w h)
theorem inlX5 : ∀ w ∈ wsX50, w ∈ wsL_law := fun _ h => List.mem_append_left _ (List.mem_append_left _ (List.mem_append_left _ (List.mem_append_left _ (List.mem_append_left _ (List.mem_append_left _ (List.mem_append_left _ (List.mem_append_left _ (List.mem_append_left _ (List.mem_append_left _ (List.mem_append_right _ h))))))))))
theorem inX5 : ∀ w ∈ wsX50, w ∈ lw_tbl := fun w h => wsL_law_in w (inlX5 w h)
theorem inlX6 : ∀ w ∈ wsX60, w ∈ wsL_law := fun _ h => List.mem_append_left _ (List.mem_append_left _ (List.mem_append_left _ (List.mem_append_left _ (List.mem_append_left _ (List.mem_append_left _ (List.mem_append_left _ (List.mem_append_left _ (List.mem_append_left _ (List.mem_append_right _ h)))))))))
theorem inX6 : ∀ w ∈ wsX60, w ∈ lw_tbl := fun w h => wsL_law_in w (inlX6 w h)
theorem inJ9 : ∀ w ∈ wsJ90, w ∈ lw_tbl := by decide +kernel
theorem inJ0 : ∀ w ∈ wsJ00, w ∈ lw_tbl := by decide +kernel
end
section
theorem dL_setRate_0 : decode cL_setRate 0 = .ok (.aload_n 3, 1) := by decide +kernel
theorem dL_setRate_1 : decode cL_setRate 1 = .ok (.iconst 0, 1) := by decide +kernel
theorem dL_setRate_2 : decode cL_setRate 2 = .ok (.aload_n 0, 1) := by decide +kernel
theorem dL_setRate_3 : decode cL_setRate 3 = .ok (.iload_n 1, 1) := by decide +kernel
theorem dL_setRate_4 : decode cL_setRate 4 = .ok (.iload_n 2, 1) := by decide +kernel
theorem dL_setRate_5 : decode cL_setRate 5 = .ok (.invokevirtual 7, 3) := by decide +kernel
theorem dL_setRate_8 : decode cL_setRate 8 = .ok (.i2l, 1) := by decide +kernel
theorem dL_setRate_9 : decode cL_setRate 9 = .ok (.lastore, 1) := by decide +kernel
theorem dL_setRate_10 : decode cL_setRate 10 = .ok (.goto 11, 3) := by decide +kernel
theorem dL_setRate_13 : decode cL_setRate 13 = .ok (.astore 4, 2) := by decide +kernel
theorem dL_setRate_15 : decode cL_setRate 15 = .ok (.iconst 1, 1) := by decide +kernel
theorem dL_setRate_16 : decode cL_setRate 16 = .ok (.ireturn, 1) := by decide +kernel
theorem dL_setRate_17 : decode cL_setRate 17 = .ok (.astore 4, 2) := by decide +kernel
theorem dL_setRate_19 : decode cL_setRate 19 = .ok (.iconst 2, 1) := by decide +kernel
theorem dL_setRate_20 : decode cL_setRate 20 = .ok (.ireturn, 1) := by decide +kernel
theorem dL_setRate_21 : decode cL_setRate 21 = .ok (.iconst 0, 1) := by decide +kernel
theorem dL_setRate_22 : decode cL_setRate 22 = .ok (.ireturn, 1) := by decide +kernel
set_option maxRecDepth 20000 in
theorem ggL_setPoints_X5_setPoints : GoodIn wsL_setPoints wsX5_setPoints := goodIn_ca (goodIn_ca (goodIn_r _ [7, 8, 9, 10, 6, 11, 12, 13, 14, 15, 16, 17, 18, 19, 20, 21, 22, 23, 24, 25, 26, 27, 28, 29, 30] (by decide +kernel) (by decide +kernel)) (goodIn_sub (fun _ h => List.mem_cons_of_mem _ (List.mem_append_left _ (List.mem_append_right _ h))) (by decide +kernel))) (goodIn_sub (fun _ h => List.mem_cons_of_mem _ (List.mem_append_right _ h)) (by decide +kernel))
set_option maxRecDepth 20000 in
theorem gL_setPoints_X5_setPoints : GoodIn wsL_setPoints (wsV RL 17 RX5 yX5_setPoints wsX5_setPoints) := goodIn_app (goodIn_of _ (by decide +kernel)) ggL_setPoints_X5_setPoints
theorem dL_setPoints_0 : decode cL_setPoints 0 = .ok (.aload_n 3, 1) := by decide +kernel
theorem dL_setPoints_1 : decode cL_setPoints 1 = .ok (.iconst 0, 1) := by decide +kernel
theorem dL_setPoints_2 : decode cL_setPoints 2 = .ok (.aload_n 0, 1) := by decide +kernel
theorem dL_setPoints_3 : decode cL_setPoints 3 = .ok (.iload_n 1, 1) := by decide +kernel
theorem dL_setPoints_4 : decode cL_setPoints 4 = .ok (.iload_n 2, 1) := by decide +kernel
theorem dL_setPoints_5 : decode cL_setPoints 5 = .ok (.invokevirtual 17, 3) := by decide +kernel
theorem dL_setPoints_8 : decode cL_setPoints 8 = .ok (.i2l, 1) := by decide +kernel
theorem dL_setPoints_9 : decode cL_setPoints 9 = .ok (.lastore, 1) := by decide +kernel
theorem dL_setPoints_10 : decode cL_setPoints 10 = .ok (.goto 11, 3) := by decide +kernel
theorem dL_setPoints_13 : decode cL_setPoints 13 = .ok (.astore 4, 2) := by decide +kernel
theorem dL_setPoints_15 : decode cL_setPoints 15 = .ok (.iconst 1, 1) := by decide +kernel
theorem dL_setPoints_16 : decode cL_setPoints 16 = .ok (.ireturn, 1) := by decide +kernel
theorem dL_setPoints_17 : decode cL_setPoints 17 = .ok (.astore 4, 2) := by decide +kernel
theorem dL_setPoints_19 : decode cL_setPoints 19 = .ok (.iconst 2, 1) := by decide +kernel
theorem dL_setPoints_20 : decode cL_setPoints 20 = .ok (.ireturn, 1) := by decide +kernel
theorem dL_setPoints_21 : decode cL_setPoints 21 = .ok (.iconst 0, 1) := by decide +kernel
theorem dL_setPoints_22 : decode cL_setPoints 22 = .ok (.ireturn, 1) := by decide +kernel
set_option maxRecDepth 20000 in
theorem ggL_toggleHoliday_X5_toggleHoliday : GoodIn wsL_toggleHoliday wsX5_toggleHoliday := goodIn_ca (goodIn_ca (goodIn_r _ [7, 8, 9, 10, 11, 12, 6, 13, 14, 15, 16, 17, 18, 19, 20, 21, 22, 23, 24, 25, 26, 27, 28, 29, 30] (by decide +kernel) (by decide +kernel)) (goodIn_sub (fun _ h => List.mem_cons_of_mem _ (List.mem_append_left _ (List.mem_append_right _ h))) (by decide +kernel))) (goodIn_sub (fun _ h => List.mem_cons_of_mem _ (List.mem_append_right _ h)) (by decide +kernel))
set_option maxRecDepth 20000 in
theorem gL_toggleHoliday_X5_toggleHoliday : GoodIn wsL_toggleHoliday (wsV RL 20 RX5 yX5_toggleHoliday wsX5_toggleHoliday) := goodIn_app (goodIn_of _ (by decide +kernel)) ggL_toggleHoliday_X5_toggleHoliday
theorem dL_toggleHoliday_0 : decode cL_toggleHoliday 0 = .ok (.aload_n 2, 1) := by decide +kernel
theorem dL_toggleHoliday_1 : decode cL_toggleHoliday 1 = .ok (.iconst 0, 1) := by decide +kernel
theorem dL_toggleHoliday_2 : decode cL_toggleHoliday 2 = .ok (.aload_n 0, 1) := by decide +kernel
theorem dL_toggleHoliday_3 : decode cL_toggleHoliday 3 = .ok (.iload_n 1, 1) := by decide +kernel
theorem dL_toggleHoliday_4 : decode cL_toggleHoliday 4 = .ok (.invokevirtual 20, 3) := by decide +kernel
theorem dL_toggleHoliday_7 : decode cL_toggleHoliday 7 = .ok (.ifCond .eq 7, 3) := by decide +kernel
theorem dL_toggleHoliday_10 : decode cL_toggleHoliday 10 = .ok (.lconst 1, 1) := by decide +kernel
theorem dL_toggleHoliday_11 : decode cL_toggleHoliday 11 = .ok (.goto 4, 3) := by decide +kernel
theorem dL_toggleHoliday_14 : decode cL_toggleHoliday 14 = .ok (.lconst 0, 1) := by decide +kernel
theorem dL_toggleHoliday_15 : decode cL_toggleHoliday 15 = .ok (.lastore, 1) := by decide +kernel
theorem dL_toggleHoliday_16 : decode cL_toggleHoliday 16 = .ok (.goto 9, 3) := by decide +kernel
theorem dL_toggleHoliday_19 : decode cL_toggleHoliday 19 = .ok (.astore_n 3, 1) := by decide +kernel
theorem dL_toggleHoliday_20 : decode cL_toggleHoliday 20 = .ok (.iconst 1, 1) := by decide +kernel
theorem dL_toggleHoliday_21 : decode cL_toggleHoliday 21 = .ok (.ireturn, 1) := by decide +kernel
theorem dL_toggleHoliday_22 : decode cL_toggleHoliday 22 = .ok (.astore_n 3, 1) := by decide +kernel
theorem dL_toggleHoliday_23 : decode cL_toggleHoliday 23 = .ok (.iconst 2, 1) := by decide +kernel
theorem dL_toggleHoliday_24 : decode cL_toggleHoliday 24 = .ok (.ireturn, 1) := by decide +kernel
theorem dL_toggleHoliday_25 : decode cL_toggleHoliday 25 = .ok (.iconst 0, 1) := by decide +kernel
theorem dL_toggleHoliday_26 : decode cL_toggleHoliday 26 = .ok (.ireturn, 1) := by decide +kernel
set_option maxRecDepth 20000 in
theorem ggL_setLimit_X5_setLimit : GoodIn wsL_setLimit wsX5_setLimit := goodIn_ca (goodIn_ca (goodIn_r _ [7, 8, 9, 10, 11, 6, 12, 13, 14, 15, 16, 17, 18, 19, 20, 21, 22, 23, 24, 25, 26, 27, 28, 29, 30, 31] (by decide +kernel) (by decide +kernel)) (goodIn_sub (fun _ h => List.mem_cons_of_mem _ (List.mem_append_left _ (List.mem_append_right _ h))) (by decide +kernel))) (goodIn_sub (fun _ h => List.mem_cons_of_mem _ (List.mem_append_right _ h)) (by decide +kernel))
set_option maxRecDepth 20000 in
theorem gL_setLimit_X5_setLimit : GoodIn wsL_setLimit (wsV RL 26 RX5 yX5_setLimit wsX5_setLimit) := goodIn_app (goodIn_of _ (by decide +kernel)) ggL_setLimit_X5_setLimit
theorem dL_setLimit_0 : decode cL_setLimit 0 = .ok (.aload_n 3, 1) := by decide +kernel
theorem dL_setLimit_1 : decode cL_setLimit 1 = .ok (.iconst 0, 1) := by decide +kernel
theorem dL_setLimit_2 : decode cL_setLimit 2 = .ok (.aload_n 0, 1) := by decide +kernel
theorem dL_setLimit_3 : decode cL_setLimit 3 = .ok (.iload_n 1, 1) := by decide +kernel
theorem dL_setLimit_4 : decode cL_setLimit 4 = .ok (.iload_n 2, 1) := by decide +kernel
theorem dL_setLimit_5 : decode cL_setLimit 5 = .ok (.invokevirtual 26, 3) := by decide +kernel
theorem dL_setLimit_8 : decode cL_setLimit 8 = .ok (.i2l, 1) := by decide +kernel
theorem dL_setLimit_9 : decode cL_setLimit 9 = .ok (.lastore, 1) := by decide +kernel
theorem dL_setLimit_10 : decode cL_setLimit 10 = .ok (.goto 11, 3) := by decide +kernel
theorem dL_setLimit_13 : decode cL_setLimit 13 = .ok (.astore 4, 2) := by decide +kernel
theorem dL_setLimit_15 : decode cL_setLimit 15 = .ok (.iconst 1, 1) := by decide +kernel
theorem dL_setLimit_16 : decode cL_setLimit 16 = .ok (.ireturn, 1) := by decide +kernel
theorem dL_setLimit_17 : decode cL_setLimit 17 = .ok (.astore 4, 2) := by decide +kernel
theorem dL_setLimit_19 : decode cL_setLimit 19 = .ok (.iconst 2, 1) := by decide +kernel
theorem dL_setLimit_20 : decode cL_setLimit 20 = .ok (.ireturn, 1) := by decide +kernel
theorem dL_setLimit_21 : decode cL_setLimit 21 = .ok (.iconst 0, 1) := by decide +kernel
theorem dL_setLimit_22 : decode cL_setLimit 22 = .ok (.ireturn, 1) := by decide +kernel
set_option maxRecDepth 20000 in
theorem ggL_forward_X5_forward : GoodIn wsL_forward wsX5_forward := goodIn_ca (goodIn_ca (goodIn_r _ [7, 8, 9, 10, 6, 11, 12, 13, 14, 15, 16, 17, 18, 19, 20, 21, 22, 23, 24, 25, 26, 27, 28, 29, 30, 31, 32, 33, 34, 35, 36, 37, 38, 39, 40, 41, 42, 43, 44, 45] (by decide +kernel) (by decide +kernel)) (goodIn_sub (fun _ h => List.mem_cons_of_mem _ (List.mem_append_left _ (List.mem_append_right _ h))) (by decide +kernel))) (goodIn_sub (fun _ h => List.mem_cons_of_mem _ (List.mem_append_right _ h)) (by decide +kernel))
set_option maxRecDepth 20000 in
theorem gL_forward_X5_forward : GoodIn wsL_forward (wsV RL 29 RX5 yX5_forward wsX5_forward) := goodIn_app (goodIn_of _ (by decide +kernel)) ggL_forward_X5_forward
theorem dL_forward_0 : decode cL_forward 0 = .ok (.aload_n 3, 1) := by decide +kernel
theorem dL_forward_1 : decode cL_forward 1 = .ok (.iconst 0, 1) := by decide +kernel
theorem dL_forward_2 : decode cL_forward 2 = .ok (.aload_n 0, 1) := by decide +kernel
theorem dL_forward_3 : decode cL_forward 3 = .ok (.iload_n 1, 1) := by decide +kernel
theorem dL_forward_4 : decode cL_forward 4 = .ok (.iload_n 2, 1) := by decide +kernel
theorem dL_forward_5 : decode cL_forward 5 = .ok (.invokevirtual 29, 3) := by decide +kernel
theorem dL_forward_8 : decode cL_forward 8 = .ok (.i2l, 1) := by decide +kernel
theorem dL_forward_9 : decode cL_forward 9 = .ok (.lastore, 1) := by decide +kernel
theorem dL_forward_10 : decode cL_forward 10 = .ok (.goto 11, 3) := by decide +kernel
theorem dL_forward_13 : decode cL_forward 13 = .ok (.astore 4, 2) := by decide +kernel
theorem dL_forward_15 : decode cL_forward 15 = .ok (.iconst 1, 1) := by decide +kernel
theorem dL_forward_16 : decode cL_forward 16 = .ok (.ireturn, 1) := by decide +kernel
theorem dL_forward_17 : decode cL_forward 17 = .ok (.astore 4, 2) := by decide +kernel
theorem dL_forward_19 : decode cL_forward 19 = .ok (.iconst 2, 1) := by decide +kernel
theorem dL_forward_20 : decode cL_forward 20 = .ok (.ireturn, 1) := by decide +kernel
theorem dL_forward_21 : decode cL_forward 21 = .ok (.iconst 0, 1) := by decide +kernel
theorem dL_forward_22 : decode cL_forward 22 = .ok (.ireturn, 1) := by decide +kernel
set_option maxRecDepth 20000 in
theorem ggL_deal_X5_deal : GoodIn wsL_deal wsX5_deal := goodIn_ca (goodIn_ca (goodIn_ca (goodIn_r _ [8, 9, 10, 11, 12, 13, 14, 15, 16, 17, 18, 19, 20, 7, 21, 22, 23, 24, 25, 26, 27, 28, 29, 30, 31, 32, 33, 34, 35, 36, 37, 38, 39, 40, 41, 42, 43, 44, 45, 46, 47, 48, 49, 50, 51, 52, 53, 54, 55, 56, 57, 58, 59, 60, 61, 62, 63, 64, 65, 66, 67, 68, 69, 70, 71, 72, 73, 74, 75, 76, 77, 78, 79, 80, 81, 82, 83, 84, 85, 86, 87, 88, 89, 90, 91, 92, 93, 94, 95, 96, 97, 98, 99, 100, 101, 102, 103, 104, 105, 106, 107, 108, 109, 110, 111, 112, 113, 114, 115, 116] (by decide +kernel) (by decide +kernel)) (goodIn_sub (fun _ h => List.mem_cons_of_mem _ (List.mem_append_left _ (List.mem_append_left _ (List.mem_append_right _ h)))) (by decide +kernel))) (goodIn_sub (fun _ h => List.mem_cons_of_mem _ (List.mem_append_left _ (List.mem_append_right _ h))) (by decide +kernel))) (goodIn_sub (fun _ h => List.mem_cons_of_mem _ (List.mem_append_right _ h)) (by decide +kernel))
set_option maxRecDepth 20000 in
theorem gL_deal_X5_deal : GoodIn wsL_deal (wsV RL 32 RX5 yX5_deal wsX5_deal) := goodIn_app (goodIn_of _ (by decide +kernel)) ggL_deal_X5_deal
theorem dL_deal_0 : decode cL_deal 0 = .ok (.aload 7, 2) := by decide +kernel
theorem dL_deal_2 : decode cL_deal 2 = .ok (.iconst 0, 1) := by decide +kernel
theorem dL_deal_3 : decode cL_deal 3 = .ok (.aload_n 0, 1) := by decide +kernel
theorem dL_deal_4 : decode cL_deal 4 = .ok (.iload_n 1, 1) := by decide +kernel
theorem dL_deal_5 : decode cL_deal 5 = .ok (.iload_n 2, 1) := by decide +kernel
theorem dL_deal_6 : decode cL_deal 6 = .ok (.iload_n 3, 1) := by decide +kernel
theorem dL_deal_7 : decode cL_deal 7 = .ok (.iload 4, 2) := by decide +kernel
theorem dL_deal_9 : decode cL_deal 9 = .ok (.iload 5, 2) := by decide +kernel
theorem dL_deal_11 : decode cL_deal 11 = .ok (.iload 6, 2) := by decide +kernel
theorem dL_deal_13 : decode cL_deal 13 = .ok (.invokevirtual 32, 3) := by decide +kernel
theorem dL_deal_16 : decode cL_deal 16 = .ok (.i2l, 1) := by decide +kernel
theorem dL_deal_17 : decode cL_deal 17 = .ok (.lastore, 1) := by decide +kernel
theorem dL_deal_18 : decode cL_deal 18 = .ok (.goto 15, 3) := by decide +kernel
theorem dL_deal_21 : decode cL_deal 21 = .ok (.astore 8, 2) := by decide +kernel
theorem dL_deal_23 : decode cL_deal 23 = .ok (.iconst 1, 1) := by decide +kernel
theorem dL_deal_24 : decode cL_deal 24 = .ok (.ireturn, 1) := by decide +kernel
theorem dL_deal_25 : decode cL_deal 25 = .ok (.astore 8, 2) := by decide +kernel
theorem dL_deal_27 : decode cL_deal 27 = .ok (.iconst 2, 1) := by decide +kernel
theorem dL_deal_28 : decode cL_deal 28 = .ok (.ireturn, 1) := by decide +kernel
theorem dL_deal_29 : decode cL_deal 29 = .ok (.astore 8, 2) := by decide +kernel
theorem dL_deal_31 : decode cL_deal 31 = .ok (.iconst 3, 1) := by decide +kernel
theorem dL_deal_32 : decode cL_deal 32 = .ok (.ireturn, 1) := by decide +kernel
theorem dL_deal_33 : decode cL_deal 33 = .ok (.iconst 0, 1) := by decide +kernel
theorem dL_deal_34 : decode cL_deal 34 = .ok (.ireturn, 1) := by decide +kernel
set_option maxRecDepth 20000 in
theorem ggL_draw_X5_draw : GoodIn wsL_draw wsX5_draw := goodIn_ca (goodIn_ca (goodIn_r _ [7, 8, 9, 10, 11, 6, 12, 13, 14, 15, 16, 17, 18, 19, 20, 21, 22, 23, 24, 25, 26, 27, 28, 29, 30, 31, 32, 33, 34, 35, 36, 37, 38, 39, 40, 41, 42, 43, 44, 45, 46, 47, 48, 49, 50, 51, 52, 53, 54, 55, 56, 57, 58, 59, 60, 61, 62, 63, 64, 65, 66, 67, 68, 69, 70, 71, 72, 73, 74, 75, 76, 77, 78, 79, 80, 81, 82, 83, 84, 85, 86, 87, 88, 89, 90, 91, 92, 93, 94, 95, 96, 97] (by decide +kernel) (by decide +kernel)) (goodIn_sub (fun _ h => List.mem_cons_of_mem _ (List.mem_append_left _ (List.mem_append_right _ h))) (by decide +kernel))) (goodIn_sub (fun _ h => List.mem_cons_of_mem _ (List.mem_append_right _ h)) (by decide +kernel))
set_option maxRecDepth 20000 in
theorem gL_draw_X5_draw : GoodIn wsL_draw (wsV RL 36 RX5 yX5_draw wsX5_draw) := goodIn_app (goodIn_of _ (by decide +kernel)) ggL_draw_X5_draw
theorem dL_draw_0 : decode cL_draw 0 = .ok (.aload_n 3, 1) := by decide +kernel
theorem dL_draw_1 : decode cL_draw 1 = .ok (.iconst 0, 1) := by decide +kernel
theorem dL_draw_2 : decode cL_draw 2 = .ok (.aload_n 0, 1) := by decide +kernel
theorem dL_draw_3 : decode cL_draw 3 = .ok (.iload_n 1, 1) := by decide +kernel
theorem dL_draw_4 : decode cL_draw 4 = .ok (.iload_n 2, 1) := by decide +kernel
theorem dL_draw_5 : decode cL_draw 5 = .ok (.invokevirtual 36, 3) := by decide +kernel
theorem dL_draw_8 : decode cL_draw 8 = .ok (.i2l, 1) := by decide +kernel
theorem dL_draw_9 : decode cL_draw 9 = .ok (.lastore, 1) := by decide +kernel
theorem dL_draw_10 : decode cL_draw 10 = .ok (.goto 11, 3) := by decide +kernel
theorem dL_draw_13 : decode cL_draw 13 = .ok (.astore 4, 2) := by decide +kernel
theorem dL_draw_15 : decode cL_draw 15 = .ok (.iconst 1, 1) := by decide +kernel
theorem dL_draw_16 : decode cL_draw 16 = .ok (.ireturn, 1) := by decide +kernel
theorem dL_draw_17 : decode cL_draw 17 = .ok (.astore 4, 2) := by decide +kernel
theorem dL_draw_19 : decode cL_draw 19 = .ok (.iconst 2, 1) := by decide +kernel
theorem dL_draw_20 : decode cL_draw 20 = .ok (.ireturn, 1) := by decide +kernel
theorem dL_draw_21 : decode cL_draw 21 = .ok (.iconst 0, 1) := by decide +kernel
theorem dL_draw_22 : decode cL_draw 22 = .ok (.ireturn, 1) := by decide +kernel
set_option maxRecDepth 20000 in
theorem ggL_roll_X5_roll : GoodIn wsL_roll wsX5_roll := goodIn_ca (goodIn_ca (goodIn_ca (goodIn_r _ [8, 9, 10, 11, 12, 13, 14, 7, 15, 16, 17, 18, 19, 20, 21, 22, 23, 24, 25, 26, 27, 28, 29, 30, 31, 32, 33, 34, 35, 36, 37, 38, 39, 40, 41, 42, 43, 44, 45, 46, 47, 48, 49, 50, 51, 52, 53, 54, 55, 56, 57, 58, 59, 60, 61, 62, 63, 64, 65, 66, 67, 68, 69, 70, 71, 72, 73, 74, 75, 76, 77, 78, 79, 80, 81, 82, 83, 84, 85, 86, 87, 88, 89, 90, 91, 92, 93, 94, 95, 96, 97, 98, 99, 100, 101, 102, 103, 104, 105, 106, 107, 108, 109, 110, 111, 112, 113, 114, 115, 116, 117, 118, 119, 120, 121, 122, 123, 124, 125, 126, 127, 128] (by decide +kernel) (by decide +kernel)) (goodIn_sub (fun _ h => List.mem_cons_of_mem _ (List.mem_append_left _ (List.mem_append_left _ (List.mem_append_right _ h)))) (by decide +kernel))) (goodIn_sub (fun _ h => List.mem_cons_of_mem _ (List.mem_append_left _ (List.mem_append_right _ h))) (by decide +kernel))) (goodIn_sub (fun _ h => List.mem_cons_of_mem _ (List.mem_append_right _ h)) (by decide +kernel))
set_option maxRecDepth 20000 in
theorem gL_roll_X5_roll : GoodIn wsL_roll (wsV RL 39 RX5 yX5_roll wsX5_roll) := goodIn_app (goodIn_of _ (by decide +kernel)) ggL_roll_X5_roll
theorem dL_roll_0 : decode cL_roll 0 = .ok (.aload 4, 2) := by decide +kernel
theorem dL_roll_2 : decode cL_roll 2 = .ok (.iconst 0, 1) := by decide +kernel
theorem dL_roll_3 : decode cL_roll 3 = .ok (.aload_n 0, 1) := by decide +kernel
theorem dL_roll_4 : decode cL_roll 4 = .ok (.iload_n 1, 1) := by decide +kernel
theorem dL_roll_5 : decode cL_roll 5 = .ok (.iload_n 2, 1) := by decide +kernel
theorem dL_roll_6 : decode cL_roll 6 = .ok (.iload_n 3, 1) := by decide +kernel
theorem dL_roll_7 : decode cL_roll 7 = .ok (.invokevirtual 39, 3) := by decide +kernel
theorem dL_roll_10 : decode cL_roll 10 = .ok (.i2l, 1) := by decide +kernel
theorem dL_roll_11 : decode cL_roll 11 = .ok (.lastore, 1) := by decide +kernel
theorem dL_roll_12 : decode cL_roll 12 = .ok (.goto 15, 3) := by decide +kernel
theorem dL_roll_15 : decode cL_roll 15 = .ok (.astore 5, 2) := by decide +kernel
theorem dL_roll_17 : decode cL_roll 17 = .ok (.iconst 1, 1) := by decide +kernel
theorem dL_roll_18 : decode cL_roll 18 = .ok (.ireturn, 1) := by decide +kernel
theorem dL_roll_19 : decode cL_roll 19 = .ok (.astore 5, 2) := by decide +kernel
theorem dL_roll_21 : decode cL_roll 21 = .ok (.iconst 2, 1) := by decide +kernel
theorem dL_roll_22 : decode cL_roll 22 = .ok (.ireturn, 1) := by decide +kernel
theorem dL_roll_23 : decode cL_roll 23 = .ok (.astore 5, 2) := by decide +kernel
theorem dL_roll_25 : decode cL_roll 25 = .ok (.iconst 3, 1) := by decide +kernel
theorem dL_roll_26 : decode cL_roll 26 = .ok (.ireturn, 1) := by decide +kernel
theorem dL_roll_27 : decode cL_roll 27 = .ok (.iconst 0, 1) := by decide +kernel
theorem dL_roll_28 : decode cL_roll 28 = .ok (.ireturn, 1) := by decide +kernel
set_option maxRecDepth 20000 in
theorem ggL_closeOut_X5_closeOut : GoodIn wsL_closeOut wsX5_closeOut := goodIn_ca (goodIn_ca (goodIn_r _ [7, 8, 9, 10, 6, 11, 12, 13, 14, 15, 16, 17, 18, 19, 20, 21, 22, 23, 24, 25, 26, 27, 28, 29, 30, 31, 32, 33, 34, 35, 36, 37, 38, 39, 40, 41, 42, 43, 44, 45, 46, 47, 48, 49, 50, 51, 52, 53, 54, 55, 56, 57, 58, 59, 60, 61, 62, 63, 64, 65, 66, 67, 68, 69, 70, 71, 72, 73, 74, 75, 76, 77, 78, 79, 80, 81, 82, 83, 84, 85, 86, 87, 88, 89, 90, 91, 92, 93, 94, 95, 96, 97, 98, 99, 100, 101, 102, 103, 104, 105, 106, 107, 108, 109, 110, 111, 112, 113, 114, 115, 116, 117, 118, 119] (by decide +kernel) (by decide +kernel)) (goodIn_sub (fun _ h => List.mem_cons_of_mem _ (List.mem_append_left _ (List.mem_append_right _ h))) (by decide +kernel))) (goodIn_sub (fun _ h => List.mem_cons_of_mem _ (List.mem_append_right _ h)) (by decide +kernel))
set_option maxRecDepth 20000 in
theorem gL_closeOut_X5_closeOut : GoodIn wsL_closeOut (wsV RL 43 RX5 yX5_closeOut wsX5_closeOut) := goodIn_app (goodIn_of _ (by decide +kernel)) ggL_closeOut_X5_closeOut
theorem dL_closeOut_0 : decode cL_closeOut 0 = .ok (.aload_n 2, 1) := by decide +kernel
theorem dL_closeOut_1 : decode cL_closeOut 1 = .ok (.iconst 0, 1) := by decide +kernel
theorem dL_closeOut_2 : decode cL_closeOut 2 = .ok (.aload_n 0, 1) := by decide +kernel
theorem dL_closeOut_3 : decode cL_closeOut 3 = .ok (.iload_n 1, 1) := by decide +kernel
theorem dL_closeOut_4 : decode cL_closeOut 4 = .ok (.invokevirtual 43, 3) := by decide +kernel
theorem dL_closeOut_7 : decode cL_closeOut 7 = .ok (.lastore, 1) := by decide +kernel
theorem dL_closeOut_8 : decode cL_closeOut 8 = .ok (.goto 9, 3) := by decide +kernel
theorem dL_closeOut_11 : decode cL_closeOut 11 = .ok (.astore_n 3, 1) := by decide +kernel
theorem dL_closeOut_12 : decode cL_closeOut 12 = .ok (.iconst 1, 1) := by decide +kernel
theorem dL_closeOut_13 : decode cL_closeOut 13 = .ok (.ireturn, 1) := by decide +kernel
theorem dL_closeOut_14 : decode cL_closeOut 14 = .ok (.astore_n 3, 1) := by decide +kernel
theorem dL_closeOut_15 : decode cL_closeOut 15 = .ok (.iconst 2, 1) := by decide +kernel
theorem dL_closeOut_16 : decode cL_closeOut 16 = .ok (.ireturn, 1) := by decide +kernel
theorem dL_closeOut_17 : decode cL_closeOut 17 = .ok (.iconst 0, 1) := by decide +kernel
theorem dL_closeOut_18 : decode cL_closeOut 18 = .ok (.ireturn, 1) := by decide +kernel
set_option maxRecDepth 20000 in
theorem ggL_left_X5_left : GoodIn wsL_left wsX5_left := goodIn_ca (goodIn_r _ [6, 7, 8, 9, 5, 10, 11, 12, 13, 14, 15, 16, 17, 18, 19, 20, 21, 22, 23, 24, 25, 26, 27, 28] (by decide +kernel) (by decide +kernel)) (goodIn_sub (fun _ h => List.mem_cons_of_mem _ (List.mem_append_right _ h)) (by decide +kernel))
set_option maxRecDepth 20000 in
theorem gL_left_X5_left : GoodIn wsL_left (wsV RL 47 RX5 yX5_left wsX5_left) := goodIn_app (goodIn_of _ (by decide +kernel)) ggL_left_X5_left
theorem dL_left_0 : decode cL_left 0 = .ok (.aload_n 2, 1) := by decide +kernel
theorem dL_left_1 : decode cL_left 1 = .ok (.iconst 0, 1) := by decide +kernel
theorem dL_left_2 : decode cL_left 2 = .ok (.aload_n 0, 1) := by decide +kernel
theorem dL_left_3 : decode cL_left 3 = .ok (.iload_n 1, 1) := by decide +kernel
theorem dL_left_4 : decode cL_left 4 = .ok (.invokevirtual 47, 3) := by decide +kernel
theorem dL_left_7 : decode cL_left 7 = .ok (.i2l, 1) := by decide +kernel
theorem dL_left_8 : decode cL_left 8 = .ok (.lastore, 1) := by decide +kernel
theorem dL_left_9 : decode cL_left 9 = .ok (.goto 6, 3) := by decide +kernel
theorem dL_left_12 : decode cL_left 12 = .ok (.astore_n 3, 1) := by decide +kernel
theorem dL_left_13 : decode cL_left 13 = .ok (.iconst 1, 1) := by decide +kernel
theorem dL_left_14 : decode cL_left 14 = .ok (.ireturn, 1) := by decide +kernel
theorem dL_left_15 : decode cL_left 15 = .ok (.iconst 0, 1) := by decide +kernel
theorem dL_left_16 : decode cL_left 16 = .ok (.ireturn, 1) := by decide +kernel
set_option maxRecDepth 20000 in
theorem ggL_rate_X5_rate : GoodIn wsL_rate wsX5_rate := goodIn_ca (goodIn_r _ [6, 7, 8, 9, 5, 10, 11, 12, 13, 14, 15, 16, 17, 18, 19, 20, 21, 22, 23, 24, 25, 26, 27, 28] (by decide +kernel) (by decide +kernel)) (goodIn_sub (fun _ h => List.mem_cons_of_mem _ (List.mem_append_right _ h)) (by decide +kernel))
set_option maxRecDepth 20000 in
theorem gL_rate_X5_rate : GoodIn wsL_rate (wsV RL 51 RX5 yX5_rate wsX5_rate) := goodIn_app (goodIn_of _ (by decide +kernel)) ggL_rate_X5_rate
theorem dL_rate_0 : decode cL_rate 0 = .ok (.aload_n 2, 1) := by decide +kernel
theorem dL_rate_1 : decode cL_rate 1 = .ok (.iconst 0, 1) := by decide +kernel
theorem dL_rate_2 : decode cL_rate 2 = .ok (.aload_n 0, 1) := by decide +kernel
theorem dL_rate_3 : decode cL_rate 3 = .ok (.iload_n 1, 1) := by decide +kernel
theorem dL_rate_4 : decode cL_rate 4 = .ok (.invokevirtual 51, 3) := by decide +kernel
theorem dL_rate_7 : decode cL_rate 7 = .ok (.i2l, 1) := by decide +kernel
theorem dL_rate_8 : decode cL_rate 8 = .ok (.lastore, 1) := by decide +kernel
theorem dL_rate_9 : decode cL_rate 9 = .ok (.goto 6, 3) := by decide +kernel
theorem dL_rate_12 : decode cL_rate 12 = .ok (.astore_n 3, 1) := by decide +kernel
theorem dL_rate_13 : decode cL_rate 13 = .ok (.iconst 1, 1) := by decide +kernel
theorem dL_rate_14 : decode cL_rate 14 = .ok (.ireturn, 1) := by decide +kernel
theorem dL_rate_15 : decode cL_rate 15 = .ok (.iconst 0, 1) := by decide +kernel
theorem dL_rate_16 : decode cL_rate 16 = .ok (.ireturn, 1) := by decide +kernel
set_option maxRecDepth 20000 in
theorem ggL_window_X5_window : GoodIn wsL_window wsX5_window := goodIn_ca (goodIn_r _ [6, 7, 8, 9, 5, 10, 11, 12, 13, 14, 15, 16, 17, 18, 19, 20, 21, 22, 23, 24, 25, 26, 27, 28] (by decide +kernel) (by decide +kernel)) (goodIn_sub (fun _ h => List.mem_cons_of_mem _ (List.mem_append_right _ h)) (by decide +kernel))
set_option maxRecDepth 20000 in
theorem gL_window_X5_window : GoodIn wsL_window (wsV RL 54 RX5 yX5_window wsX5_window) := goodIn_app (goodIn_of _ (by decide +kernel)) ggL_window_X5_window
theorem dL_window_0 : decode cL_window 0 = .ok (.aload_n 2, 1) := by decide +kernel
theorem dL_window_1 : decode cL_window 1 = .ok (.iconst 0, 1) := by decide +kernel
theorem dL_window_2 : decode cL_window 2 = .ok (.aload_n 0, 1) := by decide +kernel
theorem dL_window_3 : decode cL_window 3 = .ok (.iload_n 1, 1) := by decide +kernel
theorem dL_window_4 : decode cL_window 4 = .ok (.invokevirtual 54, 3) := by decide +kernel
theorem dL_window_7 : decode cL_window 7 = .ok (.i2l, 1) := by decide +kernel
theorem dL_window_8 : decode cL_window 8 = .ok (.lastore, 1) := by decide +kernel
theorem dL_window_9 : decode cL_window 9 = .ok (.goto 6, 3) := by decide +kernel
theorem dL_window_12 : decode cL_window 12 = .ok (.astore_n 3, 1) := by decide +kernel
theorem dL_window_13 : decode cL_window 13 = .ok (.iconst 1, 1) := by decide +kernel
theorem dL_window_14 : decode cL_window 14 = .ok (.ireturn, 1) := by decide +kernel
theorem dL_window_15 : decode cL_window 15 = .ok (.iconst 0, 1) := by decide +kernel
theorem dL_window_16 : decode cL_window 16 = .ok (.ireturn, 1) := by decide +kernel
set_option maxRecDepth 20000 in
theorem ggL_gain_X5_gain : GoodIn wsL_gain wsX5_gain := goodIn_ca (goodIn_r _ [6, 7, 8, 9, 10, 5, 11, 12, 13, 14, 15, 16, 17, 18, 19, 20, 21, 22, 23, 24, 25, 26, 27, 28, 29, 30, 31, 32, 33, 34, 35, 36, 37, 38, 39, 40, 41, 42, 43, 44, 45, 46, 47, 48, 49, 50, 51, 52, 53, 54, 55, 56, 57, 58, 59, 60, 61, 62, 63, 64, 65, 66, 67, 68, 69, 70] (by decide +kernel) (by decide +kernel)) (goodIn_sub (fun _ h => List.mem_cons_of_mem _ (List.mem_append_right _ h)) (by decide +kernel))
set_option maxRecDepth 20000 in
theorem gL_gain_X5_gain : GoodIn wsL_gain (wsV RL 57 RX5 yX5_gain wsX5_gain) := goodIn_app (goodIn_of _ (by decide +kernel)) ggL_gain_X5_gain
theorem dL_gain_0 : decode cL_gain 0 = .ok (.aload_n 2, 1) := by decide +kernel
theorem dL_gain_1 : decode cL_gain 1 = .ok (.iconst 0, 1) := by decide +kernel
theorem dL_gain_2 : decode cL_gain 2 = .ok (.aload_n 0, 1) := by decide +kernel
theorem dL_gain_3 : decode cL_gain 3 = .ok (.iload_n 1, 1) := by decide +kernel
theorem dL_gain_4 : decode cL_gain 4 = .ok (.invokevirtual 57, 3) := by decide +kernel
theorem dL_gain_7 : decode cL_gain 7 = .ok (.lastore, 1) := by decide +kernel
theorem dL_gain_8 : decode cL_gain 8 = .ok (.goto 6, 3) := by decide +kernel
theorem dL_gain_11 : decode cL_gain 11 = .ok (.astore_n 3, 1) := by decide +kernel
theorem dL_gain_12 : decode cL_gain 12 = .ok (.iconst 1, 1) := by decide +kernel
theorem dL_gain_13 : decode cL_gain 13 = .ok (.ireturn, 1) := by decide +kernel
theorem dL_gain_14 : decode cL_gain 14 = .ok (.iconst 0, 1) := by decide +kernel
theorem dL_gain_15 : decode cL_gain 15 = .ok (.ireturn, 1) := by decide +kernel
set_option maxRecDepth 20000 in
theorem ggL_exposure_X5_exposure : GoodIn wsL_exposure wsX5_exposure := goodIn_ca (goodIn_r _ [6, 7, 8, 9, 5, 10, 11, 12, 13, 14, 15, 16, 17, 18, 19, 20, 21, 22, 23, 24, 25, 26, 27, 28, 29, 30, 31, 32, 33, 34, 35, 36, 37, 38, 39, 40, 41, 42, 43, 44, 45, 46, 47, 48, 49, 50, 51, 52, 53, 54, 55, 56, 57, 58, 59, 60, 61, 62, 63, 64, 65, 66, 67, 68, 69, 70, 71, 72, 73, 74, 75, 76, 77, 78, 79, 80, 81, 82] (by decide +kernel) (by decide +kernel)) (goodIn_sub (fun _ h => List.mem_cons_of_mem _ (List.mem_append_right _ h)) (by decide +kernel))
set_option maxRecDepth 20000 in
theorem gL_exposure_X5_exposure : GoodIn wsL_exposure (wsV RL 60 RX5 yX5_exposure wsX5_exposure) := goodIn_app (goodIn_of _ (by decide +kernel)) ggL_exposure_X5_exposure
theorem dL_exposure_0 : decode cL_exposure 0 = .ok (.aload_n 2, 1) := by decide +kernel
theorem dL_exposure_1 : decode cL_exposure 1 = .ok (.iconst 0, 1) := by decide +kernel
theorem dL_exposure_2 : decode cL_exposure 2 = .ok (.aload_n 0, 1) := by decide +kernel
theorem dL_exposure_3 : decode cL_exposure 3 = .ok (.iload_n 1, 1) := by decide +kernel
theorem dL_exposure_4 : decode cL_exposure 4 = .ok (.invokevirtual 60, 3) := by decide +kernel
theorem dL_exposure_7 : decode cL_exposure 7 = .ok (.lastore, 1) := by decide +kernel
theorem dL_exposure_8 : decode cL_exposure 8 = .ok (.goto 6, 3) := by decide +kernel
theorem dL_exposure_11 : decode cL_exposure 11 = .ok (.astore_n 3, 1) := by decide +kernel
theorem dL_exposure_12 : decode cL_exposure 12 = .ok (.iconst 1, 1) := by decide +kernel
theorem dL_exposure_13 : decode cL_exposure 13 = .ok (.ireturn, 1) := by decide +kernel
theorem dL_exposure_14 : decode cL_exposure 14 = .ok (.iconst 0, 1) := by decide +kernel
theorem dL_exposure_15 : decode cL_exposure 15 = .ok (.ireturn, 1) := by decide +kernel
set_option maxRecDepth 20000 in
theorem ggL_due_X5_due : GoodIn wsL_due wsX5_due := goodIn_ca (goodIn_ca (goodIn_r _ [7, 8, 9, 10, 11, 6, 12, 13, 14, 15, 16, 17, 18, 19, 20, 21, 22, 23, 24, 25, 26, 27, 28, 29, 30, 31, 32, 33, 34, 35, 36, 37, 38, 39, 40, 41, 42, 43, 44, 45, 46, 47, 48, 49, 50] (by decide +kernel) (by decide +kernel)) (goodIn_sub (fun _ h => List.mem_cons_of_mem _ (List.mem_append_left _ (List.mem_append_right _ h))) (by decide +kernel))) (goodIn_sub (fun _ h => List.mem_cons_of_mem _ (List.mem_append_right _ h)) (by decide +kernel))
set_option maxRecDepth 20000 in
theorem gL_due_X5_due : GoodIn wsL_due (wsV RL 63 RX5 yX5_due wsX5_due) := goodIn_app (goodIn_of _ (by decide +kernel)) ggL_due_X5_due
theorem dL_due_0 : decode cL_due 0 = .ok (.aload 4, 2) := by decide +kernel
theorem dL_due_2 : decode cL_due 2 = .ok (.iconst 0, 1) := by decide +kernel
theorem dL_due_3 : decode cL_due 3 = .ok (.aload_n 0, 1) := by decide +kernel
theorem dL_due_4 : decode cL_due 4 = .ok (.iload_n 1, 1) := by decide +kernel
theorem dL_due_5 : decode cL_due 5 = .ok (.iload_n 2, 1) := by decide +kernel
theorem dL_due_6 : decode cL_due 6 = .ok (.iload_n 3, 1) := by decide +kernel
theorem dL_due_7 : decode cL_due 7 = .ok (.invokevirtual 63, 3) := by decide +kernel
theorem dL_due_10 : decode cL_due 10 = .ok (.lastore, 1) := by decide +kernel
theorem dL_due_11 : decode cL_due 11 = .ok (.goto 11, 3) := by decide +kernel
theorem dL_due_14 : decode cL_due 14 = .ok (.astore 5, 2) := by decide +kernel
theorem dL_due_16 : decode cL_due 16 = .ok (.iconst 1, 1) := by decide +kernel
theorem dL_due_17 : decode cL_due 17 = .ok (.ireturn, 1) := by decide +kernel
theorem dL_due_18 : decode cL_due 18 = .ok (.astore 5, 2) := by decide +kernel
theorem dL_due_20 : decode cL_due 20 = .ok (.iconst 2, 1) := by decide +kernel
theorem dL_due_21 : decode cL_due 21 = .ok (.ireturn, 1) := by decide +kernel
theorem dL_due_22 : decode cL_due 22 = .ok (.iconst 0, 1) := by decide +kernel
theorem dL_due_23 : decode cL_due 23 = .ok (.ireturn, 1) := by decide +kernel
set_option maxRecDepth 20000 in
theorem ggL_balance_X5_balance : GoodIn wsL_balance wsX5_balance := goodIn_ca (goodIn_ca (goodIn_r _ [7, 8, 9, 10, 6, 11, 12, 13, 14, 15, 16, 17, 18, 19, 20, 21, 22, 23, 24, 25, 26, 27, 28, 29, 30, 31, 32, 33, 34, 35, 36, 37] (by decide +kernel) (by decide +kernel)) (goodIn_sub (fun _ h => List.mem_cons_of_mem _ (List.mem_append_left _ (List.mem_append_right _ h))) (by decide +kernel))) (goodIn_sub (fun _ h => List.mem_cons_of_mem _ (List.mem_append_right _ h)) (by decide +kernel))
set_option maxRecDepth 20000 in
theorem gL_balance_X5_balance : GoodIn wsL_balance (wsV RL 67 RX5 yX5_balance wsX5_balance) := goodIn_app (goodIn_of _ (by decide +kernel)) ggL_balance_X5_balance
theorem dL_balance_0 : decode cL_balance 0 = .ok (.aload_n 3, 1) := by decide +kernel
theorem dL_balance_1 : decode cL_balance 1 = .ok (.iconst 0, 1) := by decide +kernel
theorem dL_balance_2 : decode cL_balance 2 = .ok (.aload_n 0, 1) := by decide +kernel
theorem dL_balance_3 : decode cL_balance 3 = .ok (.iload_n 1, 1) := by decide +kernel
theorem dL_balance_4 : decode cL_balance 4 = .ok (.iload_n 2, 1) := by decide +kernel
theorem dL_balance_5 : decode cL_balance 5 = .ok (.invokevirtual 67, 3) := by decide +kernel
theorem dL_balance_8 : decode cL_balance 8 = .ok (.lastore, 1) := by decide +kernel
theorem dL_balance_9 : decode cL_balance 9 = .ok (.goto 11, 3) := by decide +kernel
theorem dL_balance_12 : decode cL_balance 12 = .ok (.astore 4, 2) := by decide +kernel
theorem dL_balance_14 : decode cL_balance 14 = .ok (.iconst 1, 1) := by decide +kernel
theorem dL_balance_15 : decode cL_balance 15 = .ok (.ireturn, 1) := by decide +kernel
theorem dL_balance_16 : decode cL_balance 16 = .ok (.astore 4, 2) := by decide +kernel
theorem dL_balance_18 : decode cL_balance 18 = .ok (.iconst 2, 1) := by decide +kernel
theorem dL_balance_19 : decode cL_balance 19 = .ok (.ireturn, 1) := by decide +kernel
theorem dL_balance_20 : decode cL_balance 20 = .ok (.iconst 0, 1) := by decide +kernel
theorem dL_balance_21 : decode cL_balance 21 = .ok (.ireturn, 1) := by decide +kernel
set_option maxRecDepth 20000 in
theorem ggL_pass_X5_pass : GoodIn wsL_pass wsX5_pass := goodIn_ca (goodIn_ca (goodIn_r _ [7, 8, 9, 10, 11, 12, 6, 13, 14, 15, 16, 17, 18, 19, 20, 21, 22, 23, 24, 25, 26, 27, 28, 29, 30, 31, 32, 33, 34, 35, 36, 37, 38, 39, 40, 41, 42, 43, 44, 45, 46, 47, 48, 49, 50, 51, 52, 53, 54, 55, 56, 57, 58, 59, 60, 61, 62, 63, 64, 65, 66, 67, 68, 69, 70, 71, 72, 73, 74, 75, 76, 77, 78, 79, 80, 81, 82, 83, 84, 85, 86, 87, 88, 89, 90, 91, 92, 93, 94, 95, 96, 97, 98, 99, 100, 101, 102, 103, 104, 105, 106, 107, 108, 109, 110, 111, 112, 113, 114, 115, 116, 117, 118, 119, 120, 121, 122, 123, 124, 125, 126, 127, 128, 129, 130, 131, 132, 133, 134, 135, 136, 137, 138, 139, 140, 141] (by decide +kernel) (by decide +kernel)) (goodIn_sub (fun _ h => List.mem_cons_of_mem _ (List.mem_append_left _ (List.mem_append_right _ h))) (by decide +kernel))) (goodIn_sub (fun _ h => List.mem_cons_of_mem _ (List.mem_append_right _ h)) (by decide +kernel))
set_option maxRecDepth 20000 in
theorem gL_pass_X5_pass : GoodIn wsL_pass (wsV RL 71 RX5 yX5_pass wsX5_pass) := goodIn_app (goodIn_of _ (by decide +kernel)) ggL_pass_X5_pass
theorem dL_pass_0 : decode cL_pass 0 = .ok (.aload_n 2, 1) := by decide +kernel
theorem dL_pass_1 : decode cL_pass 1 = .ok (.iconst 0, 1) := by decide +kernel
theorem dL_pass_2 : decode cL_pass 2 = .ok (.aload_n 0, 1) := by decide +kernel
theorem dL_pass_3 : decode cL_pass 3 = .ok (.iload_n 1, 1) := by decide +kernel
theorem dL_pass_4 : decode cL_pass 4 = .ok (.invokevirtual 71, 3) := by decide +kernel
theorem dL_pass_7 : decode cL_pass 7 = .ok (.i2l, 1) := by decide +kernel
theorem dL_pass_8 : decode cL_pass 8 = .ok (.lastore, 1) := by decide +kernel
theorem dL_pass_9 : decode cL_pass 9 = .ok (.goto 9, 3) := by decide +kernel
theorem dL_pass_12 : decode cL_pass 12 = .ok (.astore_n 3, 1) := by decide +kernel
theorem dL_pass_13 : decode cL_pass 13 = .ok (.iconst 1, 1) := by decide +kernel
theorem dL_pass_14 : decode cL_pass 14 = .ok (.ireturn, 1) := by decide +kernel
theorem dL_pass_15 : decode cL_pass 15 = .ok (.astore_n 3, 1) := by decide +kernel
theorem dL_pass_16 : decode cL_pass 16 = .ok (.iconst 2, 1) := by decide +kernel
theorem dL_pass_17 : decode cL_pass 17 = .ok (.ireturn, 1) := by decide +kernel
theorem dL_pass_18 : decode cL_pass 18 = .ok (.iconst 0, 1) := by decide +kernel
theorem dL_pass_19 : decode cL_pass 19 = .ok (.ireturn, 1) := by decide +kernel
set_option maxRecDepth 20000 in
theorem ggL_law_X5_init : GoodIn wsL_law wsX5_init := goodIn_r _ [9, 10, 11, 12, 13, 14, 15, 16, 17, 18, 19, 20, 21, 22, 23, 24, 25, 26, 27, 28, 29, 30, 31, 32, 33, 34, 35, 36, 37, 38, 39, 40, 41, 42, 43, 44, 45, 46, 47, 48, 49, 50, 6, 51, 537, 538, 516, 517, 518, 519, 520, 539, 540, 541, 542, 543, 544, 545] (by decide +kernel) (by decide +kernel)
set_option maxRecDepth 20000 in
theorem gL_law_X5_init : GoodIn wsL_law (wsX5_init) := ggL_law_X5_init
set_option maxRecDepth 20000 in
theorem ggL_law_X6_init : GoodIn wsL_law wsX6_init := goodIn_r _ [54, 55, 11, 12, 56, 57, 58, 6, 59, 60, 30, 61, 62, 63, 64, 65, 66, 67, 68, 69, 70, 521, 522, 523, 524, 525, 526, 527, 528, 529, 530, 531, 532, 533, 534, 535, 536] (by decide +kernel) (by decide +kernel)
set_option maxRecDepth 20000 in
theorem gL_law_X6_init : GoodIn wsL_law (wsX6_init) := ggL_law_X6_init
set_option maxRecDepth 20000 in
theorem ggL_law_L_setRate : GoodIn wsL_law wsL_setRate := goodIn_ca (goodIn_ca (goodIn_r _ [74, 75, 76, 77, 78, 79, 2, 80, 81, 82, 83, 84, 85, 86, 87, 18, 88, 89, 90, 91, 92, 93, 94, 95, 539, 540, 541, 516, 517, 518, 519, 520] (by decide +kernel) (by decide +kernel)) (goodIn_sub (fun _ h => List.mem_append_left _ (List.mem_append_left _ (List.mem_append_right _ h))) (by decide +kernel))) (goodIn_sub (fun _ h => List.mem_append_left _ (List.mem_append_right _ h)) (by decide +kernel))
set_option maxRecDepth 20000 in
theorem gL_law_L_setRate : GoodIn wsL_law (va_wsS RL 78 yL_setRate wsL_setRate) := goodIn_app (goodIn_of _ (by decide +kernel)) ggL_law_L_setRate
set_option maxRecDepth 20000 in
theorem ggL_law_X6_setRate : GoodIn wsL_law wsX6_setRate := goodIn_r _ [99, 100, 101, 57, 102, 103, 5, 104, 105, 106, 107, 521, 522, 523, 524, 525, 526, 527, 528, 529, 530, 531, 532, 533, 534, 535, 536] (by decide +kernel) (by decide +kernel)
set_option maxRecDepth 20000 in
theorem gL_law_X6_setRate : GoodIn wsL_law (wsV RL 83 RX6 yX6_setRate wsX6_setRate) := goodIn_app (goodIn_of _ (by decide +kernel)) ggL_law_X6_setRate
set_option maxRecDepth 20000 in
theorem ggL_law_X6_thrown : GoodIn wsL_law wsX6_thrown := goodIn_r _ [111, 101, 521, 522, 523, 524, 525, 526, 527, 528, 529, 530, 531, 532, 533, 534, 535, 536] (by decide +kernel) (by decide +kernel)
set_option maxRecDepth 20000 in
theorem gL_law_X6_thrown : GoodIn wsL_law (wsV RL 84 RX6 yX6_thrown wsX6_thrown) := goodIn_app (goodIn_of _ (by decide +kernel)) ggL_law_X6_thrown
set_option maxRecDepth 20000 in
theorem ggL_law_L_setPoints : GoodIn wsL_law wsL_setPoints := goodIn_ca (goodIn_ca (goodIn_r _ [114, 75, 76, 115, 116, 117, 2, 118, 82, 83, 84, 85, 86, 87, 18, 88, 89, 90, 91, 92, 93, 94, 95, 539, 540, 541, 516, 517, 518, 519, 520] (by decide +kernel) (by decide +kernel)) (goodIn_sub (fun _ h => List.mem_append_left _ (List.mem_append_left _ (List.mem_append_right _ h))) (by decide +kernel))) (goodIn_sub (fun _ h => List.mem_append_left _ (List.mem_append_right _ h)) (by decide +kernel))
set_option maxRecDepth 20000 in
theorem gL_law_L_setPoints : GoodIn wsL_law (va_wsS RL 88 yL_setPoints wsL_setPoints) := goodIn_app (goodIn_of _ (by decide +kernel)) ggL_law_L_setPoints
set_option maxRecDepth 20000 in
theorem ggL_law_X6_setPoints : GoodIn wsL_law wsX6_setPoints := goodIn_r _ [122, 101, 58, 102, 103, 5, 104, 105, 106, 107, 521, 522, 523, 524, 525, 526, 527, 528, 529, 530, 531, 532, 533, 534, 535, 536] (by decide +kernel) (by decide +kernel)
set_option maxRecDepth 20000 in
theorem gL_law_X6_setPoints : GoodIn wsL_law (wsV RL 90 RX6 yX6_setPoints wsX6_setPoints) := goodIn_app (goodIn_of _ (by decide +kernel)) ggL_law_X6_setPoints
set_option maxRecDepth 20000 in
theorem ggL_law_L_toggleHoliday : GoodIn wsL_law wsL_toggleHoliday := goodIn_ca (goodIn_ca (goodIn_r _ [125, 76, 126, 127, 128, 129, 2, 130, 131, 132, 16, 91, 92, 93, 94, 95, 133, 134, 135, 15, 136, 31, 89, 90, 516, 517, 518, 519, 520, 537, 538] (by decide +kernel) (by decide +kernel)) (goodIn_sub (fun _ h => List.mem_append_right _ h) (by decide +kernel))) (goodIn_sub (fun _ h => List.mem_append_left _ (List.mem_append_right _ h)) (by decide +kernel))
set_option maxRecDepth 20000 in
theorem gL_law_L_toggleHoliday : GoodIn wsL_law (va_wsS RL 91 yL_toggleHoliday wsL_toggleHoliday) := goodIn_app (goodIn_of _ (by decide +kernel)) ggL_law_L_toggleHoliday
set_option maxRecDepth 20000 in
theorem ggL_law_X6_toggleHoliday : GoodIn wsL_law wsX6_toggleHoliday := goodIn_r _ [140, 141, 101, 61, 105, 106, 5, 107, 521, 522, 523, 524, 525, 526, 527, 528, 529, 530, 531, 532, 533, 534, 535, 536] (by decide +kernel) (by decide +kernel)
set_option maxRecDepth 20000 in
theorem gL_law_X6_toggleHoliday : GoodIn wsL_law (wsV RL 94 RX6 yX6_toggleHoliday wsX6_toggleHoliday) := goodIn_app (goodIn_of _ (by decide +kernel)) ggL_law_X6_toggleHoliday
set_option maxRecDepth 20000 in
theorem ggL_law_L_setLimit : GoodIn wsL_law wsL_setLimit := goodIn_ca (goodIn_ca (goodIn_r _ [144, 75, 76, 145, 146, 147, 2, 148, 149, 150, 151, 152, 153, 86, 87, 22, 88, 89, 90, 91, 92, 93, 94, 95, 542, 543, 544, 516, 517, 518, 519, 520] (by decide +kernel) (by decide +kernel)) (goodIn_sub (fun _ h => List.mem_append_left _ (List.mem_append_left _ (List.mem_append_right _ h))) (by decide +kernel))) (goodIn_sub (fun _ h => List.mem_append_left _ (List.mem_append_right _ h)) (by decide +kernel))
set_option maxRecDepth 20000 in
theorem gL_law_L_setLimit : GoodIn wsL_law (va_wsS RL 95 yL_setLimit wsL_setLimit) := goodIn_app (goodIn_of _ (by decide +kernel)) ggL_law_L_setLimit
set_option maxRecDepth 20000 in
theorem ggL_law_X6_setLimit : GoodIn wsL_law wsX6_setLimit := goodIn_r _ [157, 158, 101, 60, 159, 160, 5, 161, 105, 106, 107, 521, 522, 523, 524, 525, 526, 527, 528, 529, 530, 531, 532, 533, 534, 535, 536] (by decide +kernel) (by decide +kernel)
set_option maxRecDepth 20000 in
theorem gL_law_X6_setLimit : GoodIn wsL_law (wsV RL 97 RX6 yX6_setLimit wsX6_setLimit) := goodIn_app (goodIn_of _ (by decide +kernel)) ggL_law_X6_setLimit
set_option maxRecDepth 20000 in
theorem ggL_law_L_forward : GoodIn wsL_law wsL_forward := goodIn_ca (goodIn_ca (goodIn_r _ [164, 75, 76, 165, 166, 167, 2, 168, 82, 83, 84, 85, 86, 87, 18, 88, 89, 90, 91, 92, 93, 94, 95, 169, 170, 171, 20, 172, 36, 173, 174, 175, 176, 177, 178, 179, 180, 181, 516, 517, 518, 519, 520, 539, 540, 541] (by decide +kernel) (by decide +kernel)) (goodIn_sub (fun _ h => List.mem_append_left _ (List.mem_append_left _ (List.mem_append_right _ h))) (by decide +kernel))) (goodIn_sub (fun _ h => List.mem_append_left _ (List.mem_append_right _ h)) (by decide +kernel))
set_option maxRecDepth 20000 in
theorem gL_law_L_forward : GoodIn wsL_law (va_wsS RL 98 yL_forward wsL_forward) := goodIn_app (goodIn_of _ (by decide +kernel)) ggL_law_L_forward
set_option maxRecDepth 20000 in
theorem ggL_law_X6_forward : GoodIn wsL_law wsX6_forward := goodIn_r _ [185, 101, 141, 102, 103, 5, 104, 105, 106, 107, 186, 187, 188, 189, 57, 58, 190, 191, 192, 521, 522, 523, 524, 525, 526, 527, 528, 529, 530, 531, 532, 533, 534, 535, 536] (by decide +kernel) (by decide +kernel)
set_option maxRecDepth 20000 in
theorem gL_law_X6_forward : GoodIn wsL_law (wsV RL 100 RX6 yX6_forward wsX6_forward) := goodIn_app (goodIn_of _ (by decide +kernel)) ggL_law_X6_forward
set_option maxRecDepth 20000 in
theorem ggL_law_L_deal : GoodIn wsL_law wsL_deal := goodIn_ca (goodIn_ca (goodIn_ca (goodIn_r _ [195, 75, 76, 126, 196, 197, 198, 2, 199, 131, 132, 200, 201, 26, 16, 25, 202, 203, 150, 151, 152, 153, 86, 87, 22, 88, 89, 90, 82, 83, 84, 85, 18, 91, 92, 93, 94, 95, 169, 170, 171, 20, 172, 36, 173, 174, 175, 176, 177, 178, 179, 180, 181, 204, 205, 206, 207, 11, 12, 208, 209, 210, 211, 212, 213, 214, 215, 216, 217, 218, 219, 220, 221, 222, 223, 224, 225, 226, 227, 228, 229, 230, 231, 232, 233, 234, 235, 236, 237, 238, 239, 240, 241, 242, 243, 244, 245, 516, 517, 518, 519, 520, 537, 538, 546, 547, 548, 549, 550, 551, 552, 542, 543, 544, 539, 540, 541] (by decide +kernel) (by decide +kernel)) (goodIn_sub (fun _ h => List.mem_append_right _ h) (by decide +kernel))) (goodIn_sub (fun _ h => List.mem_append_left _ (List.mem_append_left _ (List.mem_append_right _ h))) (by decide +kernel))) (goodIn_sub (fun _ h => List.mem_append_left _ (List.mem_append_right _ h)) (by decide +kernel))
set_option maxRecDepth 20000 in
theorem gL_law_L_deal : GoodIn wsL_law (va_wsS RL 101 yL_deal wsL_deal) := goodIn_app (goodIn_of _ (by decide +kernel)) ggL_law_L_deal
set_option maxRecDepth 20000 in
theorem ggL_law_X6_deal : GoodIn wsL_law wsX6_deal := goodIn_r _ [249, 250, 251, 101, 62, 63, 64, 65, 66, 141, 67, 68, 60, 159, 160, 5, 161, 105, 106, 107, 102, 103, 104, 186, 187, 188, 189, 57, 58, 190, 191, 192, 252, 253, 254, 255, 256, 257, 258, 259, 260, 261, 262, 263, 264, 265, 266, 267, 521, 522, 523, 524, 525, 526, 527, 528, 529, 530, 531, 532, 533, 534, 535, 536] (by decide +kernel) (by decide +kernel)
set_option maxRecDepth 20000 in
theorem gL_law_X6_deal : GoodIn wsL_law (wsV RL 104 RX6 yX6_deal wsX6_deal) := goodIn_app (goodIn_of _ (by decide +kernel)) ggL_law_X6_deal
set_option maxRecDepth 20000 in
theorem ggL_law_L_draw : GoodIn wsL_law wsL_draw := goodIn_ca (goodIn_ca (goodIn_r _ [270, 75, 76, 271, 272, 273, 2, 274, 16, 275, 276, 277, 278, 86, 87, 26, 88, 89, 90, 91, 92, 93, 94, 95, 279, 280, 281, 203, 282, 213, 209, 212, 283, 174, 175, 20, 176, 177, 178, 179, 180, 181, 284, 237, 238, 239, 285, 286, 287, 15, 288, 289, 290, 291, 292, 293, 31, 294, 295, 296, 24, 297, 44, 43, 45, 46, 48, 49, 50, 11, 12, 6, 51, 298, 299, 300, 301, 546, 547, 548, 549, 550, 551, 552, 516, 517, 518, 519, 520, 537, 538, 539, 540, 541, 542, 543, 544, 545] (by decide +kernel) (by decide +kernel)) (goodIn_sub (fun _ h => List.mem_append_left _ (List.mem_append_left _ (List.mem_append_right _ h))) (by decide +kernel))) (goodIn_sub (fun _ h => List.mem_append_left _ (List.mem_append_right _ h)) (by decide +kernel))
set_option maxRecDepth 20000 in
theorem gL_law_L_draw : GoodIn wsL_law (va_wsS RL 105 yL_draw wsL_draw) := goodIn_app (goodIn_of _ (by decide +kernel)) ggL_law_L_draw
set_option maxRecDepth 20000 in
theorem ggL_law_X6_draw : GoodIn wsL_law wsX6_draw := goodIn_r _ [305, 65, 101, 66, 141, 58, 63, 68, 62, 64, 306, 307, 308, 5, 309, 251, 105, 106, 107, 190, 191, 192, 264, 265, 266, 267, 310, 311, 312, 313, 69, 314, 315, 316, 317, 318, 319, 320, 321, 61, 521, 522, 523, 524, 525, 526, 527, 528, 529, 530, 531, 532, 533, 534, 535, 536] (by decide +kernel) (by decide +kernel)
set_option maxRecDepth 20000 in
theorem gL_law_X6_draw : GoodIn wsL_law (wsV RL 107 RX6 yX6_draw wsX6_draw) := goodIn_app (goodIn_of _ (by decide +kernel)) ggL_law_X6_draw
set_option maxRecDepth 20000 in
theorem ggL_law_L_roll : GoodIn wsL_law wsL_roll := goodIn_ca (goodIn_ca (goodIn_ca (goodIn_r _ [324, 75, 76, 126, 325, 326, 327, 2, 328, 131, 132, 16, 275, 276, 277, 278, 86, 87, 26, 88, 89, 90, 91, 92, 93, 94, 95, 329, 330, 331, 332, 333, 334, 335, 336, 337, 338, 203, 339, 228, 229, 230, 231, 209, 214, 232, 170, 171, 20, 172, 36, 173, 174, 175, 176, 177, 178, 179, 180, 181, 233, 234, 235, 236, 211, 212, 210, 237, 238, 239, 285, 286, 287, 15, 288, 289, 290, 291, 292, 293, 31, 294, 295, 296, 24, 297, 44, 43, 45, 46, 48, 49, 50, 11, 12, 6, 51, 298, 299, 300, 301, 340, 341, 342, 343, 213, 344, 345, 546, 547, 548, 549, 550, 551, 552, 516, 517, 518, 519, 520, 537, 538, 539, 540, 541, 542, 543, 544, 545] (by decide +kernel) (by decide +kernel)) (goodIn_sub (fun _ h => List.mem_append_right _ h) (by decide +kernel))) (goodIn_sub (fun _ h => List.mem_append_left _ (List.mem_append_left _ (List.mem_append_right _ h))) (by decide +kernel))) (goodIn_sub (fun _ h => List.mem_append_left _ (List.mem_append_right _ h)) (by decide +kernel))
set_option maxRecDepth 20000 in
theorem gL_law_L_roll : GoodIn wsL_law (va_wsS RL 108 yL_roll wsL_roll) := goodIn_app (goodIn_of _ (by decide +kernel)) ggL_law_L_roll
set_option maxRecDepth 20000 in
theorem ggL_law_X6_roll : GoodIn wsL_law wsX6_roll := goodIn_r _ [349, 65, 67, 141, 101, 62, 68, 63, 58, 66, 306, 307, 308, 5, 309, 251, 105, 106, 107, 350, 351, 352, 353, 186, 187, 188, 189, 57, 190, 191, 192, 260, 261, 262, 263, 64, 264, 265, 266, 267, 310, 311, 312, 313, 69, 314, 315, 316, 317, 318, 319, 320, 321, 61, 521, 522, 523, 524, 525, 526, 527, 528, 529, 530, 531, 532, 533, 534, 535, 536] (by decide +kernel) (by decide +kernel)
set_option maxRecDepth 20000 in
theorem gL_law_X6_roll : GoodIn wsL_law (wsV RL 111 RX6 yX6_roll wsX6_roll) := goodIn_app (goodIn_of _ (by decide +kernel)) ggL_law_X6_roll
set_option maxRecDepth 20000 in
theorem ggL_law_L_closeOut : GoodIn wsL_law wsL_closeOut := goodIn_ca (goodIn_ca (goodIn_r _ [356, 75, 126, 357, 358, 359, 2, 360, 275, 276, 277, 278, 86, 87, 26, 88, 89, 90, 329, 330, 331, 131, 132, 361, 362, 363, 364, 332, 333, 334, 335, 16, 336, 337, 338, 203, 339, 228, 229, 230, 231, 209, 214, 232, 170, 171, 20, 172, 36, 173, 174, 175, 176, 177, 178, 179, 180, 181, 233, 234, 235, 236, 211, 212, 210, 237, 238, 239, 285, 286, 287, 15, 288, 289, 290, 291, 292, 293, 31, 294, 295, 296, 24, 297, 44, 43, 45, 46, 48, 49, 50, 11, 12, 6, 51, 298, 299, 300, 301, 516, 517, 518, 519, 520, 546, 547, 548, 549, 550, 551, 552, 537, 538, 539, 540, 541, 542, 543, 544, 545] (by decide +kernel) (by decide +kernel)) (goodIn_sub (fun _ h => List.mem_append_left _ (List.mem_append_left _ (List.mem_append_right _ h))) (by decide +kernel))) (goodIn_sub (fun _ h => List.mem_append_right _ h) (by decide +kernel))
set_option maxRecDepth 20000 in
theorem gL_law_L_closeOut : GoodIn wsL_law (va_wsS RL 112 yL_closeOut wsL_closeOut) := goodIn_app (goodIn_of _ (by decide +kernel)) ggL_law_L_closeOut
set_option maxRecDepth 20000 in
theorem ggL_law_X6_closeOut : GoodIn wsL_law wsX6_closeOut := goodIn_r _ [368, 65, 101, 306, 307, 308, 5, 309, 251, 105, 106, 107, 369, 370, 371, 372, 62, 350, 351, 352, 353, 63, 67, 186, 187, 188, 189, 57, 58, 141, 190, 191, 192, 260, 261, 262, 263, 68, 64, 264, 265, 266, 267, 310, 311, 312, 313, 69, 314, 315, 316, 317, 318, 319, 320, 321, 61, 521, 522, 523, 524, 525, 526, 527, 528, 529, 530, 531, 532, 533, 534, 535, 536] (by decide +kernel) (by decide +kernel)
set_option maxRecDepth 20000 in
theorem gL_law_X6_closeOut : GoodIn wsL_law (wsV RL 114 RX6 yX6_closeOut wsX6_closeOut) := goodIn_app (goodIn_of _ (by decide +kernel)) ggL_law_X6_closeOut
set_option maxRecDepth 20000 in
theorem ggL_law_L_left : GoodIn wsL_law wsL_left := goodIn_ca (goodIn_r _ [375, 75, 376, 377, 378, 2, 379, 275, 276, 277, 278, 86, 87, 26, 88, 89, 90, 546, 547, 548, 549, 550, 551, 552, 516, 517, 518, 519, 520] (by decide +kernel) (by decide +kernel)) (goodIn_sub (fun _ h => List.mem_append_left _ (List.mem_append_left _ (List.mem_append_right _ h))) (by decide +kernel))
set_option maxRecDepth 20000 in
theorem gL_law_L_left : GoodIn wsL_law (va_wsS RL 115 yL_left wsL_left) := goodIn_app (goodIn_of _ (by decide +kernel)) ggL_law_L_left
set_option maxRecDepth 20000 in
theorem ggL_law_X6_left : GoodIn wsL_law wsX6_left := goodIn_r _ [383, 65, 384, 385, 386, 5, 387, 101, 306, 307, 308, 309, 251, 105, 106, 107, 521, 522, 523, 524, 525, 526, 527, 528, 529, 530, 531, 532, 533, 534, 535, 536] (by decide +kernel) (by decide +kernel)
set_option maxRecDepth 20000 in
theorem gL_law_X6_left : GoodIn wsL_law (wsV RL 117 RX6 yX6_left wsX6_left) := goodIn_app (goodIn_of _ (by decide +kernel)) ggL_law_X6_left
set_option maxRecDepth 20000 in
theorem ggL_law_L_rate : GoodIn wsL_law wsL_rate := goodIn_ca (goodIn_r _ [390, 75, 391, 392, 393, 2, 394, 275, 276, 277, 278, 86, 87, 26, 88, 89, 90, 546, 547, 548, 549, 550, 551, 552, 516, 517, 518, 519, 520] (by decide +kernel) (by decide +kernel)) (goodIn_sub (fun _ h => List.mem_append_left _ (List.mem_append_left _ (List.mem_append_right _ h))) (by decide +kernel))
set_option maxRecDepth 20000 in
theorem gL_law_L_rate : GoodIn wsL_law (va_wsS RL 118 yL_rate wsL_rate) := goodIn_app (goodIn_of _ (by decide +kernel)) ggL_law_L_rate
set_option maxRecDepth 20000 in
theorem ggL_law_X6_rate : GoodIn wsL_law wsX6_rate := goodIn_r _ [398, 68, 384, 385, 386, 5, 387, 101, 306, 307, 308, 309, 251, 105, 106, 107, 521, 522, 523, 524, 525, 526, 527, 528, 529, 530, 531, 532, 533, 534, 535, 536] (by decide +kernel) (by decide +kernel)
set_option maxRecDepth 20000 in
theorem gL_law_X6_rate : GoodIn wsL_law (wsV RL 120 RX6 yX6_rate wsX6_rate) := goodIn_app (goodIn_of _ (by decide +kernel)) ggL_law_X6_rate
set_option maxRecDepth 20000 in
theorem ggL_law_L_window : GoodIn wsL_law wsL_window := goodIn_ca (goodIn_r _ [401, 75, 402, 403, 404, 2, 405, 275, 276, 277, 278, 86, 87, 26, 88, 89, 90, 546, 547, 548, 549, 550, 551, 552, 516, 517, 518, 519, 520] (by decide +kernel) (by decide +kernel)) (goodIn_sub (fun _ h => List.mem_append_left _ (List.mem_append_left _ (List.mem_append_right _ h))) (by decide +kernel))
set_option maxRecDepth 20000 in
theorem gL_law_L_window : GoodIn wsL_law (va_wsS RL 121 yL_window wsL_window) := goodIn_app (goodIn_of _ (by decide +kernel)) ggL_law_L_window
set_option maxRecDepth 20000 in
theorem ggL_law_X6_window : GoodIn wsL_law wsX6_window := goodIn_r _ [409, 66, 67, 384, 385, 386, 5, 387, 101, 306, 307, 308, 309, 251, 105, 106, 107, 521, 522, 523, 524, 525, 526, 527, 528, 529, 530, 531, 532, 533, 534, 535, 536] (by decide +kernel) (by decide +kernel)
set_option maxRecDepth 20000 in
theorem gL_law_X6_window : GoodIn wsL_law (wsV RL 123 RX6 yX6_window wsX6_window) := goodIn_app (goodIn_of _ (by decide +kernel)) ggL_law_X6_window
set_option maxRecDepth 20000 in
theorem ggL_law_L_gain : GoodIn wsL_law wsL_gain := goodIn_ca (goodIn_r _ [412, 75, 413, 414, 415, 2, 416, 16, 275, 276, 277, 278, 86, 87, 26, 88, 89, 90, 336, 337, 338, 203, 339, 228, 229, 230, 231, 209, 214, 232, 170, 171, 20, 172, 36, 173, 174, 175, 176, 177, 178, 179, 180, 181, 233, 234, 235, 236, 211, 212, 210, 237, 238, 239, 516, 517, 518, 519, 520, 537, 538, 546, 547, 548, 549, 550, 551, 552, 539, 540, 541] (by decide +kernel) (by decide +kernel)) (goodIn_sub (fun _ h => List.mem_append_left _ (List.mem_append_left _ (List.mem_append_right _ h))) (by decide +kernel))
set_option maxRecDepth 20000 in
theorem gL_law_L_gain : GoodIn wsL_law (va_wsS RL 124 yL_gain wsL_gain) := goodIn_app (goodIn_of _ (by decide +kernel)) ggL_law_L_gain
set_option maxRecDepth 20000 in
theorem ggL_law_X6_gain : GoodIn wsL_law wsX6_gain := goodIn_r _ [420, 384, 385, 386, 5, 387, 101, 306, 307, 308, 309, 251, 105, 106, 107, 350, 351, 352, 353, 65, 63, 67, 186, 187, 188, 189, 57, 58, 141, 190, 191, 192, 260, 261, 262, 263, 68, 64, 264, 265, 266, 267, 521, 522, 523, 524, 525, 526, 527, 528, 529, 530, 531, 532, 533, 534, 535, 536] (by decide +kernel) (by decide +kernel)
set_option maxRecDepth 20000 in
theorem gL_law_X6_gain : GoodIn wsL_law (wsV RL 126 RX6 yX6_gain wsX6_gain) := goodIn_app (goodIn_of _ (by decide +kernel)) ggL_law_X6_gain
set_option maxRecDepth 20000 in
theorem ggL_law_L_exposure : GoodIn wsL_law wsL_exposure := goodIn_ca (goodIn_r _ [423, 75, 424, 425, 426, 2, 427, 150, 151, 152, 153, 86, 87, 22, 88, 89, 90, 219, 220, 221, 222, 26, 16, 223, 224, 225, 203, 226, 227, 179, 180, 181, 228, 229, 230, 231, 209, 214, 232, 170, 171, 20, 172, 36, 173, 174, 175, 176, 177, 178, 233, 234, 235, 236, 211, 212, 210, 237, 238, 239, 240, 241, 242, 243, 244, 245, 516, 517, 518, 519, 520, 546, 547, 548, 549, 550, 551, 552, 537, 538, 539, 540, 541] (by decide +kernel) (by decide +kernel)) (goodIn_sub (fun _ h => List.mem_append_left _ (List.mem_append_left _ (List.mem_append_right _ h))) (by decide +kernel))
set_option maxRecDepth 20000 in
theorem gL_law_L_exposure : GoodIn wsL_law (va_wsS RL 127 yL_exposure wsL_exposure) := goodIn_app (goodIn_of _ (by decide +kernel)) ggL_law_L_exposure
set_option maxRecDepth 20000 in
theorem ggL_law_X6_exposure : GoodIn wsL_law wsX6_exposure := goodIn_r _ [431, 101, 159, 160, 5, 161, 105, 106, 107, 252, 253, 254, 255, 256, 257, 258, 259, 251, 63, 67, 62, 65, 186, 187, 188, 189, 57, 58, 141, 190, 191, 192, 260, 261, 262, 263, 68, 64, 264, 265, 266, 267, 521, 522, 523, 524, 525, 526, 527, 528, 529, 530, 531, 532, 533, 534, 535, 536] (by decide +kernel) (by decide +kernel)
set_option maxRecDepth 20000 in
theorem gL_law_X6_exposure : GoodIn wsL_law (wsV RL 129 RX6 yX6_exposure wsX6_exposure) := goodIn_app (goodIn_of _ (by decide +kernel)) ggL_law_X6_exposure
set_option maxRecDepth 20000 in
theorem ggL_law_X5_settlementDay : GoodIn wsL_law wsX5_settlementDay := goodIn_r _ [435, 16, 285, 286, 287, 15, 288, 289, 290, 291, 292, 293, 31, 89, 2, 90, 516, 517, 518, 519, 520, 537, 538] (by decide +kernel) (by decide +kernel)
set_option maxRecDepth 20000 in
theorem gL_law_X5_settlementDay : GoodIn wsL_law (wsV RL 130 RX5 yX5_settlementDay wsX5_settlementDay) := goodIn_app (goodIn_of _ (by decide +kernel)) ggL_law_X5_settlementDay
set_option maxRecDepth 20000 in
theorem ggL_law_X6_settlementDay : GoodIn wsL_law wsX6_settlementDay := goodIn_r _ [439, 101, 314, 315, 316, 5, 317, 141, 318, 319, 320, 321, 61, 521, 522, 523, 524, 525, 526, 527, 528, 529, 530, 531, 532, 533, 534, 535, 536] (by decide +kernel) (by decide +kernel)
set_option maxRecDepth 20000 in
theorem gL_law_X6_settlementDay : GoodIn wsL_law (wsV RL 133 RX6 yX6_settlementDay wsX6_settlementDay) := goodIn_app (goodIn_of _ (by decide +kernel)) ggL_law_X6_settlementDay
set_option maxRecDepth 20000 in
theorem ggL_law_L_due : GoodIn wsL_law wsL_due := goodIn_ca (goodIn_ca (goodIn_r _ [442, 75, 76, 443, 444, 445, 2, 446, 16, 150, 151, 152, 153, 86, 87, 22, 88, 89, 90, 91, 92, 93, 94, 95, 447, 448, 449, 24, 450, 451, 452, 453, 454, 44, 455, 456, 457, 46, 458, 51, 516, 517, 518, 519, 520, 537, 538, 542, 543, 544, 545] (by decide +kernel) (by decide +kernel)) (goodIn_sub (fun _ h => List.mem_append_left _ (List.mem_append_left _ (List.mem_append_right _ h))) (by decide +kernel))) (goodIn_sub (fun _ h => List.mem_append_left _ (List.mem_append_right _ h)) (by decide +kernel))
set_option maxRecDepth 20000 in
theorem gL_law_L_due : GoodIn wsL_law (va_wsS RL 134 yL_due wsL_due) := goodIn_app (goodIn_of _ (by decide +kernel)) ggL_law_L_due
set_option maxRecDepth 20000 in
theorem ggL_law_X6_due : GoodIn wsL_law wsX6_due := goodIn_r _ [462, 101, 69, 141, 159, 160, 5, 161, 105, 106, 107, 521, 522, 523, 524, 525, 526, 527, 528, 529, 530, 531, 532, 533, 534, 535, 536] (by decide +kernel) (by decide +kernel)
set_option maxRecDepth 20000 in
theorem gL_law_X6_due : GoodIn wsL_law (wsV RL 137 RX6 yX6_due wsX6_due) := goodIn_app (goodIn_of _ (by decide +kernel)) ggL_law_X6_due
set_option maxRecDepth 20000 in
theorem ggL_law_L_balance : GoodIn wsL_law wsL_balance := goodIn_ca (goodIn_ca (goodIn_r _ [465, 75, 76, 466, 467, 468, 2, 469, 150, 151, 152, 153, 86, 87, 22, 88, 89, 90, 91, 92, 93, 94, 95, 470, 456, 457, 46, 458, 51, 542, 543, 544, 516, 517, 518, 519, 520, 545] (by decide +kernel) (by decide +kernel)) (goodIn_sub (fun _ h => List.mem_append_left _ (List.mem_append_left _ (List.mem_append_right _ h))) (by decide +kernel))) (goodIn_sub (fun _ h => List.mem_append_left _ (List.mem_append_right _ h)) (by decide +kernel))
set_option maxRecDepth 20000 in
theorem gL_law_L_balance : GoodIn wsL_law (va_wsS RL 138 yL_balance wsL_balance) := goodIn_app (goodIn_of _ (by decide +kernel)) ggL_law_L_balance
set_option maxRecDepth 20000 in
theorem ggL_law_X6_balance : GoodIn wsL_law wsX6_balance := goodIn_r _ [474, 101, 70, 159, 160, 5, 161, 105, 106, 107, 521, 522, 523, 524, 525, 526, 527, 528, 529, 530, 531, 532, 533, 534, 535, 536] (by decide +kernel) (by decide +kernel)
set_option maxRecDepth 20000 in
theorem gL_law_X6_balance : GoodIn wsL_law (wsV RL 140 RX6 yX6_balance wsX6_balance) := goodIn_app (goodIn_of _ (by decide +kernel)) ggL_law_X6_balance
set_option maxRecDepth 20000 in
theorem ggL_law_L_pass : GoodIn wsL_law wsL_pass := goodIn_ca (goodIn_ca (goodIn_r _ [477, 76, 126, 478, 479, 480, 2, 481, 131, 132, 16, 91, 92, 93, 94, 95, 482, 483, 484, 485, 26, 361, 362, 363, 364, 332, 333, 334, 335, 336, 337, 338, 203, 339, 228, 229, 230, 231, 209, 214, 232, 170, 171, 20, 172, 36, 173, 174, 175, 176, 177, 178, 179, 180, 181, 233, 234, 235, 236, 211, 212, 210, 237, 238, 239, 285, 286, 287, 15, 288, 289, 290, 291, 292, 293, 31, 89, 90, 294, 295, 296, 24, 297, 44, 43, 45, 46, 48, 49, 50, 11, 12, 6, 51, 298, 299, 300, 301, 486, 487, 488, 489, 22, 490, 491, 492, 493, 47, 451, 452, 453, 454, 494, 495, 496, 497, 498, 456, 457, 458, 499, 516, 517, 518, 519, 520, 537, 538, 546, 547, 548, 549, 550, 551, 552, 539, 540, 541, 542, 543, 544, 545] (by decide +kernel) (by decide +kernel)) (goodIn_sub (fun _ h => List.mem_append_right _ h) (by decide +kernel))) (goodIn_sub (fun _ h => List.mem_append_left _ (List.mem_append_right _ h)) (by decide +kernel))
set_option maxRecDepth 20000 in
theorem gL_law_L_pass : GoodIn wsL_law (va_wsS RL 141 yL_pass wsL_pass) := goodIn_app (goodIn_of _ (by decide +kernel)) ggL_law_L_pass
set_option maxRecDepth 20000 in
theorem ggL_law_X6_pass : GoodIn wsL_law wsX6_pass := goodIn_r _ [503, 141, 101, 105, 106, 5, 107, 504, 505, 506, 507, 251, 65, 67, 70, 69, 369, 370, 371, 372, 62, 350, 351, 352, 353, 63, 186, 187, 188, 189, 57, 58, 190, 191, 192, 260, 261, 262, 263, 68, 64, 264, 265, 266, 267, 310, 311, 312, 313, 314, 315, 316, 317, 318, 319, 320, 321, 61, 521, 522, 523, 524, 525, 526, 527, 528, 529, 530, 531, 532, 533, 534, 535, 536] (by decide +kernel) (by decide +kernel)
set_option maxRecDepth 20000 in
theorem gL_law_X6_pass : GoodIn wsL_law (wsV RL 143 RX6 yX6_pass wsX6_pass) := goodIn_app (goodIn_of _ (by decide +kernel)) ggL_law_X6_pass
set_option maxRecDepth 20000 in
theorem ggL_law_X5_today : GoodIn wsL_law wsX5_today := goodIn_r _ [511, 16, 516, 517, 518, 519, 520, 537, 538] (by decide +kernel) (by decide +kernel)
set_option maxRecDepth 20000 in
theorem gL_law_X5_today : GoodIn wsL_law (wsV RL 144 RX5 yX5_today wsX5_today) := goodIn_app (goodIn_of _ (by decide +kernel)) ggL_law_X5_today
set_option maxRecDepth 20000 in
theorem ggL_law_X6_today : GoodIn wsL_law wsX6_today := goodIn_r _ [515, 101, 141, 521, 522, 523, 524, 525, 526, 527, 528, 529, 530, 531, 532, 533, 534, 535, 536] (by decide +kernel) (by decide +kernel)
set_option maxRecDepth 20000 in
theorem gL_law_X6_today : GoodIn wsL_law (wsV RL 147 RX6 yX6_today wsX6_today) := goodIn_app (goodIn_of _ (by decide +kernel)) ggL_law_X6_today
end
section
theorem dL_law_0 : decode cL_law 0 = .ok (.new 8, 3) := by decide +kernel
theorem dL_law_3 : decode cL_law 3 = .ok (.dup, 1) := by decide +kernel
theorem dL_law_4 : decode cL_law 4 = .ok (.invokespecial 74, 3) := by decide +kernel
theorem dL_law_7 : decode cL_law 7 = .ok (.astore_n 1, 1) := by decide +kernel
theorem dL_law_8 : decode cL_law 8 = .ok (.new 75, 3) := by decide +kernel
theorem dL_law_11 : decode cL_law 11 = .ok (.dup, 1) := by decide +kernel
theorem dL_law_12 : decode cL_law 12 = .ok (.invokespecial 77, 3) := by decide +kernel
theorem dL_law_15 : decode cL_law 15 = .ok (.astore_n 2, 1) := by decide +kernel
theorem dL_law_16 : decode cL_law 16 = .ok (.iconst 1, 1) := by decide +kernel
theorem dL_law_17 : decode cL_law 17 = .ok (.newarray .long, 2) := by decide +kernel
theorem dL_law_19 : decode cL_law 19 = .ok (.astore_n 3, 1) := by decide +kernel
theorem dL_law_20 : decode cL_law 20 = .ok (.iconst 0, 1) := by decide +kernel
theorem dL_law_21 : decode cL_law 21 = .ok (.istore 4, 2) := by decide +kernel
theorem dL_law_23 : decode cL_law 23 = .ok (.iload 4, 2) := by decide +kernel
theorem dL_law_25 : decode cL_law 25 = .ok (.aload_n 0, 1) := by decide +kernel
theorem dL_law_26 : decode cL_law 26 = .ok (.arraylength, 1) := by decide +kernel
theorem dL_law_27 : decode cL_law 27 = .ok (.bipush 7, 2) := by decide +kernel
theorem dL_law_29 : decode cL_law 29 = .ok (.isub, 1) := by decide +kernel
theorem dL_law_30 : decode cL_law 30 = .ok (.if_icmp .gt 1302, 3) := by decide +kernel
theorem dL_law_33 : decode cL_law 33 = .ok (.aload_n 0, 1) := by decide +kernel
theorem dL_law_34 : decode cL_law 34 = .ok (.iload 4, 2) := by decide +kernel
theorem dL_law_36 : decode cL_law 36 = .ok (.iaload, 1) := by decide +kernel
theorem dL_law_37 : decode cL_law 37 = .ok (.bipush 31, 2) := by decide +kernel
theorem dL_law_39 : decode cL_law 39 = .ok (.iand, 1) := by decide +kernel
theorem dL_law_40 : decode cL_law 40 = .ok (.tableswitch 1286 0 18 #[92, 160, 228, 291, 359, 427, 561, 629, 725, 780, 836, 892, 948, 1003, 1058, 1071, 1150, 1217, 1273], 92) := by decide +kernel
theorem dL_law_132 : decode cL_law 132 = .ok (.aload_n 1, 1) := by decide +kernel
theorem dL_law_133 : decode cL_law 133 = .ok (.aload_n 0, 1) := by decide +kernel
theorem dL_law_134 : decode cL_law 134 = .ok (.iload 4, 2) := by decide +kernel
theorem dL_law_136 : decode cL_law 136 = .ok (.iconst 1, 1) := by decide +kernel
theorem dL_law_137 : decode cL_law 137 = .ok (.iadd, 1) := by decide +kernel
theorem dL_law_138 : decode cL_law 138 = .ok (.iaload, 1) := by decide +kernel
theorem dL_law_139 : decode cL_law 139 = .ok (.aload_n 0, 1) := by decide +kernel
theorem dL_law_140 : decode cL_law 140 = .ok (.iload 4, 2) := by decide +kernel
theorem dL_law_142 : decode cL_law 142 = .ok (.iconst 2, 1) := by decide +kernel
theorem dL_law_143 : decode cL_law 143 = .ok (.iadd, 1) := by decide +kernel
theorem dL_law_144 : decode cL_law 144 = .ok (.iaload, 1) := by decide +kernel
theorem dL_law_145 : decode cL_law 145 = .ok (.aload_n 3, 1) := by decide +kernel
theorem dL_law_146 : decode cL_law 146 = .ok (.invokestatic 78, 3) := by decide +kernel
theorem dL_law_149 : decode cL_law 149 = .ok (.istore 5, 2) := by decide +kernel
theorem dL_law_151 : decode cL_law 151 = .ok (.aload_n 2, 1) := by decide +kernel
theorem dL_law_152 : decode cL_law 152 = .ok (.aload_n 0, 1) := by decide +kernel
theorem dL_law_153 : decode cL_law 153 = .ok (.iload 4, 2) := by decide +kernel
theorem dL_law_155 : decode cL_law 155 = .ok (.iconst 1, 1) := by decide +kernel
theorem dL_law_156 : decode cL_law 156 = .ok (.iadd, 1) := by decide +kernel
theorem dL_law_157 : decode cL_law 157 = .ok (.iaload, 1) := by decide +kernel
theorem dL_law_158 : decode cL_law 158 = .ok (.aload_n 0, 1) := by decide +kernel
theorem dL_law_159 : decode cL_law 159 = .ok (.iload 4, 2) := by decide +kernel
theorem dL_law_161 : decode cL_law 161 = .ok (.iconst 2, 1) := by decide +kernel
theorem dL_law_162 : decode cL_law 162 = .ok (.iadd, 1) := by decide +kernel
theorem dL_law_163 : decode cL_law 163 = .ok (.iaload, 1) := by decide +kernel
theorem dL_law_164 : decode cL_law 164 = .ok (.invokevirtual 83, 3) := by decide +kernel
theorem dL_law_167 : decode cL_law 167 = .ok (.istore 6, 2) := by decide +kernel
theorem dL_law_169 : decode cL_law 169 = .ok (.aload_n 2, 1) := by decide +kernel
theorem dL_law_170 : decode cL_law 170 = .ok (.invokevirtual 84, 3) := by decide +kernel
theorem dL_law_173 : decode cL_law 173 = .ok (.iload 5, 2) := by decide +kernel
theorem dL_law_175 : decode cL_law 175 = .ok (.if_icmp .eq 5, 3) := by decide +kernel
theorem dL_law_178 : decode cL_law 178 = .ok (.iconst 0, 1) := by decide +kernel
theorem dL_law_179 : decode cL_law 179 = .ok (.ireturn, 1) := by decide +kernel
theorem dL_law_180 : decode cL_law 180 = .ok (.iload 5, 2) := by decide +kernel
theorem dL_law_182 : decode cL_law 182 = .ok (.ifCond .ne 15, 3) := by decide +kernel
theorem dL_law_185 : decode cL_law 185 = .ok (.aload_n 3, 1) := by decide +kernel
theorem dL_law_186 : decode cL_law 186 = .ok (.iconst 0, 1) := by decide +kernel
theorem dL_law_187 : decode cL_law 187 = .ok (.laload, 1) := by decide +kernel
theorem dL_law_188 : decode cL_law 188 = .ok (.iload 6, 2) := by decide +kernel
theorem dL_law_190 : decode cL_law 190 = .ok (.i2l, 1) := by decide +kernel
theorem dL_law_191 : decode cL_law 191 = .ok (.lcmp, 1) := by decide +kernel
theorem dL_law_192 : decode cL_law 192 = .ok (.ifCond .eq 5, 3) := by decide +kernel
theorem dL_law_195 : decode cL_law 195 = .ok (.iconst 0, 1) := by decide +kernel
theorem dL_law_196 : decode cL_law 196 = .ok (.ireturn, 1) := by decide +kernel
theorem dL_law_197 : decode cL_law 197 = .ok (.goto 1129, 3) := by decide +kernel
theorem dL_law_200 : decode cL_law 200 = .ok (.aload_n 1, 1) := by decide +kernel
theorem dL_law_201 : decode cL_law 201 = .ok (.aload_n 0, 1) := by decide +kernel
theorem dL_law_202 : decode cL_law 202 = .ok (.iload 4, 2) := by decide +kernel
theorem dL_law_204 : decode cL_law 204 = .ok (.iconst 1, 1) := by decide +kernel
theorem dL_law_205 : decode cL_law 205 = .ok (.iadd, 1) := by decide +kernel
theorem dL_law_206 : decode cL_law 206 = .ok (.iaload, 1) := by decide +kernel
theorem dL_law_207 : decode cL_law 207 = .ok (.aload_n 0, 1) := by decide +kernel
theorem dL_law_208 : decode cL_law 208 = .ok (.iload 4, 2) := by decide +kernel
theorem dL_law_210 : decode cL_law 210 = .ok (.iconst 2, 1) := by decide +kernel
theorem dL_law_211 : decode cL_law 211 = .ok (.iadd, 1) := by decide +kernel
theorem dL_law_212 : decode cL_law 212 = .ok (.iaload, 1) := by decide +kernel
theorem dL_law_213 : decode cL_law 213 = .ok (.aload_n 3, 1) := by decide +kernel
theorem dL_law_214 : decode cL_law 214 = .ok (.invokestatic 88, 3) := by decide +kernel
theorem dL_law_217 : decode cL_law 217 = .ok (.istore 5, 2) := by decide +kernel
theorem dL_law_219 : decode cL_law 219 = .ok (.aload_n 2, 1) := by decide +kernel
theorem dL_law_220 : decode cL_law 220 = .ok (.aload_n 0, 1) := by decide +kernel
theorem dL_law_221 : decode cL_law 221 = .ok (.iload 4, 2) := by decide +kernel
theorem dL_law_223 : decode cL_law 223 = .ok (.iconst 1, 1) := by decide +kernel
theorem dL_law_224 : decode cL_law 224 = .ok (.iadd, 1) := by decide +kernel
theorem dL_law_225 : decode cL_law 225 = .ok (.iaload, 1) := by decide +kernel
theorem dL_law_226 : decode cL_law 226 = .ok (.aload_n 0, 1) := by decide +kernel
theorem dL_law_227 : decode cL_law 227 = .ok (.iload 4, 2) := by decide +kernel
theorem dL_law_229 : decode cL_law 229 = .ok (.iconst 2, 1) := by decide +kernel
theorem dL_law_230 : decode cL_law 230 = .ok (.iadd, 1) := by decide +kernel
theorem dL_law_231 : decode cL_law 231 = .ok (.iaload, 1) := by decide +kernel
theorem dL_law_232 : decode cL_law 232 = .ok (.invokevirtual 90, 3) := by decide +kernel
theorem dL_law_235 : decode cL_law 235 = .ok (.istore 6, 2) := by decide +kernel
theorem dL_law_237 : decode cL_law 237 = .ok (.aload_n 2, 1) := by decide +kernel
theorem dL_law_238 : decode cL_law 238 = .ok (.invokevirtual 84, 3) := by decide +kernel
theorem dL_law_241 : decode cL_law 241 = .ok (.iload 5, 2) := by decide +kernel
theorem dL_law_243 : decode cL_law 243 = .ok (.if_icmp .eq 5, 3) := by decide +kernel
theorem dL_law_246 : decode cL_law 246 = .ok (.iconst 0, 1) := by decide +kernel
theorem dL_law_247 : decode cL_law 247 = .ok (.ireturn, 1) := by decide +kernel
theorem dL_law_248 : decode cL_law 248 = .ok (.iload 5, 2) := by decide +kernel
theorem dL_law_250 : decode cL_law 250 = .ok (.ifCond .ne 15, 3) := by decide +kernel
theorem dL_law_253 : decode cL_law 253 = .ok (.aload_n 3, 1) := by decide +kernel
theorem dL_law_254 : decode cL_law 254 = .ok (.iconst 0, 1) := by decide +kernel
theorem dL_law_255 : decode cL_law 255 = .ok (.laload, 1) := by decide +kernel
theorem dL_law_256 : decode cL_law 256 = .ok (.iload 6, 2) := by decide +kernel
theorem dL_law_258 : decode cL_law 258 = .ok (.i2l, 1) := by decide +kernel
theorem dL_law_259 : decode cL_law 259 = .ok (.lcmp, 1) := by decide +kernel
theorem dL_law_260 : decode cL_law 260 = .ok (.ifCond .eq 5, 3) := by decide +kernel
theorem dL_law_263 : decode cL_law 263 = .ok (.iconst 0, 1) := by decide +kernel
theorem dL_law_264 : decode cL_law 264 = .ok (.ireturn, 1) := by decide +kernel
theorem dL_law_265 : decode cL_law 265 = .ok (.goto 1061, 3) := by decide +kernel
theorem dL_law_268 : decode cL_law 268 = .ok (.aload_n 1, 1) := by decide +kernel
theorem dL_law_269 : decode cL_law 269 = .ok (.aload_n 0, 1) := by decide +kernel
theorem dL_law_270 : decode cL_law 270 = .ok (.iload 4, 2) := by decide +kernel
theorem dL_law_272 : decode cL_law 272 = .ok (.iconst 1, 1) := by decide +kernel
theorem dL_law_273 : decode cL_law 273 = .ok (.iadd, 1) := by decide +kernel
theorem dL_law_274 : decode cL_law 274 = .ok (.iaload, 1) := by decide +kernel
theorem dL_law_275 : decode cL_law 275 = .ok (.aload_n 3, 1) := by decide +kernel
theorem dL_law_276 : decode cL_law 276 = .ok (.invokestatic 91, 3) := by decide +kernel
theorem dL_law_279 : decode cL_law 279 = .ok (.istore 5, 2) := by decide +kernel
theorem dL_law_281 : decode cL_law 281 = .ok (.aload_n 2, 1) := by decide +kernel
theorem dL_law_282 : decode cL_law 282 = .ok (.aload_n 0, 1) := by decide +kernel
theorem dL_law_283 : decode cL_law 283 = .ok (.iload 4, 2) := by decide +kernel
theorem dL_law_285 : decode cL_law 285 = .ok (.iconst 1, 1) := by decide +kernel
theorem dL_law_286 : decode cL_law 286 = .ok (.iadd, 1) := by decide +kernel
theorem dL_law_287 : decode cL_law 287 = .ok (.iaload, 1) := by decide +kernel
theorem dL_law_288 : decode cL_law 288 = .ok (.invokevirtual 94, 3) := by decide +kernel
theorem dL_law_291 : decode cL_law 291 = .ok (.istore 6, 2) := by decide +kernel
theorem dL_law_293 : decode cL_law 293 = .ok (.aload_n 2, 1) := by decide +kernel
theorem dL_law_294 : decode cL_law 294 = .ok (.invokevirtual 84, 3) := by decide +kernel
theorem dL_law_297 : decode cL_law 297 = .ok (.iload 5, 2) := by decide +kernel
theorem dL_law_299 : decode cL_law 299 = .ok (.if_icmp .eq 5, 3) := by decide +kernel
theorem dL_law_302 : decode cL_law 302 = .ok (.iconst 0, 1) := by decide +kernel
theorem dL_law_303 : decode cL_law 303 = .ok (.ireturn, 1) := by decide +kernel
theorem dL_law_304 : decode cL_law 304 = .ok (.iload 5, 2) := by decide +kernel
theorem dL_law_306 : decode cL_law 306 = .ok (.ifCond .ne 22, 3) := by decide +kernel
theorem dL_law_309 : decode cL_law 309 = .ok (.aload_n 3, 1) := by decide +kernel
theorem dL_law_310 : decode cL_law 310 = .ok (.iconst 0, 1) := by decide +kernel
theorem dL_law_311 : decode cL_law 311 = .ok (.laload, 1) := by decide +kernel
theorem dL_law_312 : decode cL_law 312 = .ok (.iload 6, 2) := by decide +kernel
theorem dL_law_314 : decode cL_law 314 = .ok (.ifCond .eq 7, 3) := by decide +kernel
theorem dL_law_317 : decode cL_law 317 = .ok (.lconst 1, 1) := by decide +kernel
theorem dL_law_318 : decode cL_law 318 = .ok (.goto 4, 3) := by decide +kernel
theorem dL_law_321 : decode cL_law 321 = .ok (.lconst 0, 1) := by decide +kernel
theorem dL_law_322 : decode cL_law 322 = .ok (.lcmp, 1) := by decide +kernel
theorem dL_law_323 : decode cL_law 323 = .ok (.ifCond .eq 5, 3) := by decide +kernel
theorem dL_law_326 : decode cL_law 326 = .ok (.iconst 0, 1) := by decide +kernel
theorem dL_law_327 : decode cL_law 327 = .ok (.ireturn, 1) := by decide +kernel
theorem dL_law_328 : decode cL_law 328 = .ok (.goto 998, 3) := by decide +kernel
theorem dL_law_331 : decode cL_law 331 = .ok (.aload_n 1, 1) := by decide +kernel
theorem dL_law_332 : decode cL_law 332 = .ok (.aload_n 0, 1) := by decide +kernel
theorem dL_law_333 : decode cL_law 333 = .ok (.iload 4, 2) := by decide +kernel
theorem dL_law_335 : decode cL_law 335 = .ok (.iconst 1, 1) := by decide +kernel
theorem dL_law_336 : decode cL_law 336 = .ok (.iadd, 1) := by decide +kernel
theorem dL_law_337 : decode cL_law 337 = .ok (.iaload, 1) := by decide +kernel
theorem dL_law_338 : decode cL_law 338 = .ok (.aload_n 0, 1) := by decide +kernel
theorem dL_law_339 : decode cL_law 339 = .ok (.iload 4, 2) := by decide +kernel
theorem dL_law_341 : decode cL_law 341 = .ok (.iconst 2, 1) := by decide +kernel
theorem dL_law_342 : decode cL_law 342 = .ok (.iadd, 1) := by decide +kernel
theorem dL_law_343 : decode cL_law 343 = .ok (.iaload, 1) := by decide +kernel
theorem dL_law_344 : decode cL_law 344 = .ok (.aload_n 3, 1) := by decide +kernel
theorem dL_law_345 : decode cL_law 345 = .ok (.invokestatic 95, 3) := by decide +kernel
theorem dL_law_348 : decode cL_law 348 = .ok (.istore 5, 2) := by decide +kernel
theorem dL_law_350 : decode cL_law 350 = .ok (.aload_n 2, 1) := by decide +kernel
theorem dL_law_351 : decode cL_law 351 = .ok (.aload_n 0, 1) := by decide +kernel
theorem dL_law_352 : decode cL_law 352 = .ok (.iload 4, 2) := by decide +kernel
theorem dL_law_354 : decode cL_law 354 = .ok (.iconst 1, 1) := by decide +kernel
theorem dL_law_355 : decode cL_law 355 = .ok (.iadd, 1) := by decide +kernel
theorem dL_law_356 : decode cL_law 356 = .ok (.iaload, 1) := by decide +kernel
theorem dL_law_357 : decode cL_law 357 = .ok (.aload_n 0, 1) := by decide +kernel
theorem dL_law_358 : decode cL_law 358 = .ok (.iload 4, 2) := by decide +kernel
theorem dL_law_360 : decode cL_law 360 = .ok (.iconst 2, 1) := by decide +kernel
theorem dL_law_361 : decode cL_law 361 = .ok (.iadd, 1) := by decide +kernel
theorem dL_law_362 : decode cL_law 362 = .ok (.iaload, 1) := by decide +kernel
theorem dL_law_363 : decode cL_law 363 = .ok (.invokevirtual 97, 3) := by decide +kernel
theorem dL_law_366 : decode cL_law 366 = .ok (.istore 6, 2) := by decide +kernel
theorem dL_law_368 : decode cL_law 368 = .ok (.aload_n 2, 1) := by decide +kernel
theorem dL_law_369 : decode cL_law 369 = .ok (.invokevirtual 84, 3) := by decide +kernel
theorem dL_law_372 : decode cL_law 372 = .ok (.iload 5, 2) := by decide +kernel
theorem dL_law_374 : decode cL_law 374 = .ok (.if_icmp .eq 5, 3) := by decide +kernel
theorem dL_law_377 : decode cL_law 377 = .ok (.iconst 0, 1) := by decide +kernel
theorem dL_law_378 : decode cL_law 378 = .ok (.ireturn, 1) := by decide +kernel
theorem dL_law_379 : decode cL_law 379 = .ok (.iload 5, 2) := by decide +kernel
theorem dL_law_381 : decode cL_law 381 = .ok (.ifCond .ne 15, 3) := by decide +kernel
theorem dL_law_384 : decode cL_law 384 = .ok (.aload_n 3, 1) := by decide +kernel
theorem dL_law_385 : decode cL_law 385 = .ok (.iconst 0, 1) := by decide +kernel
theorem dL_law_386 : decode cL_law 386 = .ok (.laload, 1) := by decide +kernel
theorem dL_law_387 : decode cL_law 387 = .ok (.iload 6, 2) := by decide +kernel
theorem dL_law_389 : decode cL_law 389 = .ok (.i2l, 1) := by decide +kernel
theorem dL_law_390 : decode cL_law 390 = .ok (.lcmp, 1) := by decide +kernel
theorem dL_law_391 : decode cL_law 391 = .ok (.ifCond .eq 5, 3) := by decide +kernel
theorem dL_law_394 : decode cL_law 394 = .ok (.iconst 0, 1) := by decide +kernel
theorem dL_law_395 : decode cL_law 395 = .ok (.ireturn, 1) := by decide +kernel
theorem dL_law_396 : decode cL_law 396 = .ok (.goto 930, 3) := by decide +kernel
theorem dL_law_399 : decode cL_law 399 = .ok (.aload_n 1, 1) := by decide +kernel
theorem dL_law_400 : decode cL_law 400 = .ok (.aload_n 0, 1) := by decide +kernel
theorem dL_law_401 : decode cL_law 401 = .ok (.iload 4, 2) := by decide +kernel
theorem dL_law_403 : decode cL_law 403 = .ok (.iconst 1, 1) := by decide +kernel
theorem dL_law_404 : decode cL_law 404 = .ok (.iadd, 1) := by decide +kernel
theorem dL_law_405 : decode cL_law 405 = .ok (.iaload, 1) := by decide +kernel
theorem dL_law_406 : decode cL_law 406 = .ok (.aload_n 0, 1) := by decide +kernel
theorem dL_law_407 : decode cL_law 407 = .ok (.iload 4, 2) := by decide +kernel
theorem dL_law_409 : decode cL_law 409 = .ok (.iconst 2, 1) := by decide +kernel
theorem dL_law_410 : decode cL_law 410 = .ok (.iadd, 1) := by decide +kernel
theorem dL_law_411 : decode cL_law 411 = .ok (.iaload, 1) := by decide +kernel
theorem dL_law_412 : decode cL_law 412 = .ok (.aload_n 3, 1) := by decide +kernel
theorem dL_law_413 : decode cL_law 413 = .ok (.invokestatic 98, 3) := by decide +kernel
theorem dL_law_416 : decode cL_law 416 = .ok (.istore 5, 2) := by decide +kernel
theorem dL_law_418 : decode cL_law 418 = .ok (.aload_n 2, 1) := by decide +kernel
theorem dL_law_419 : decode cL_law 419 = .ok (.aload_n 0, 1) := by decide +kernel
theorem dL_law_420 : decode cL_law 420 = .ok (.iload 4, 2) := by decide +kernel
theorem dL_law_422 : decode cL_law 422 = .ok (.iconst 1, 1) := by decide +kernel
theorem dL_law_423 : decode cL_law 423 = .ok (.iadd, 1) := by decide +kernel
theorem dL_law_424 : decode cL_law 424 = .ok (.iaload, 1) := by decide +kernel
theorem dL_law_425 : decode cL_law 425 = .ok (.aload_n 0, 1) := by decide +kernel
theorem dL_law_426 : decode cL_law 426 = .ok (.iload 4, 2) := by decide +kernel
theorem dL_law_428 : decode cL_law 428 = .ok (.iconst 2, 1) := by decide +kernel
theorem dL_law_429 : decode cL_law 429 = .ok (.iadd, 1) := by decide +kernel
theorem dL_law_430 : decode cL_law 430 = .ok (.iaload, 1) := by decide +kernel
theorem dL_law_431 : decode cL_law 431 = .ok (.invokevirtual 100, 3) := by decide +kernel
theorem dL_law_434 : decode cL_law 434 = .ok (.istore 6, 2) := by decide +kernel
theorem dL_law_436 : decode cL_law 436 = .ok (.aload_n 2, 1) := by decide +kernel
theorem dL_law_437 : decode cL_law 437 = .ok (.invokevirtual 84, 3) := by decide +kernel
theorem dL_law_440 : decode cL_law 440 = .ok (.iload 5, 2) := by decide +kernel
theorem dL_law_442 : decode cL_law 442 = .ok (.if_icmp .eq 5, 3) := by decide +kernel
theorem dL_law_445 : decode cL_law 445 = .ok (.iconst 0, 1) := by decide +kernel
theorem dL_law_446 : decode cL_law 446 = .ok (.ireturn, 1) := by decide +kernel
theorem dL_law_447 : decode cL_law 447 = .ok (.iload 5, 2) := by decide +kernel
theorem dL_law_449 : decode cL_law 449 = .ok (.ifCond .ne 15, 3) := by decide +kernel
theorem dL_law_452 : decode cL_law 452 = .ok (.aload_n 3, 1) := by decide +kernel
theorem dL_law_453 : decode cL_law 453 = .ok (.iconst 0, 1) := by decide +kernel
theorem dL_law_454 : decode cL_law 454 = .ok (.laload, 1) := by decide +kernel
theorem dL_law_455 : decode cL_law 455 = .ok (.iload 6, 2) := by decide +kernel
theorem dL_law_457 : decode cL_law 457 = .ok (.i2l, 1) := by decide +kernel
theorem dL_law_458 : decode cL_law 458 = .ok (.lcmp, 1) := by decide +kernel
theorem dL_law_459 : decode cL_law 459 = .ok (.ifCond .eq 5, 3) := by decide +kernel
theorem dL_law_462 : decode cL_law 462 = .ok (.iconst 0, 1) := by decide +kernel
theorem dL_law_463 : decode cL_law 463 = .ok (.ireturn, 1) := by decide +kernel
theorem dL_law_464 : decode cL_law 464 = .ok (.goto 862, 3) := by decide +kernel
theorem dL_law_467 : decode cL_law 467 = .ok (.aload_n 1, 1) := by decide +kernel
theorem dL_law_468 : decode cL_law 468 = .ok (.aload_n 0, 1) := by decide +kernel
theorem dL_law_469 : decode cL_law 469 = .ok (.iload 4, 2) := by decide +kernel
theorem dL_law_471 : decode cL_law 471 = .ok (.iconst 1, 1) := by decide +kernel
theorem dL_law_472 : decode cL_law 472 = .ok (.iadd, 1) := by decide +kernel
theorem dL_law_473 : decode cL_law 473 = .ok (.iaload, 1) := by decide +kernel
theorem dL_law_474 : decode cL_law 474 = .ok (.aload_n 0, 1) := by decide +kernel
theorem dL_law_475 : decode cL_law 475 = .ok (.iload 4, 2) := by decide +kernel
theorem dL_law_477 : decode cL_law 477 = .ok (.iconst 2, 1) := by decide +kernel
theorem dL_law_478 : decode cL_law 478 = .ok (.iadd, 1) := by decide +kernel
theorem dL_law_479 : decode cL_law 479 = .ok (.iaload, 1) := by decide +kernel
theorem dL_law_480 : decode cL_law 480 = .ok (.aload_n 0, 1) := by decide +kernel
theorem dL_law_481 : decode cL_law 481 = .ok (.iload 4, 2) := by decide +kernel
theorem dL_law_483 : decode cL_law 483 = .ok (.iconst 3, 1) := by decide +kernel
theorem dL_law_484 : decode cL_law 484 = .ok (.iadd, 1) := by decide +kernel
theorem dL_law_485 : decode cL_law 485 = .ok (.iaload, 1) := by decide +kernel
theorem dL_law_486 : decode cL_law 486 = .ok (.ifCond .eq 7, 3) := by decide +kernel
theorem dL_law_489 : decode cL_law 489 = .ok (.iconst 1, 1) := by decide +kernel
theorem dL_law_490 : decode cL_law 490 = .ok (.goto 4, 3) := by decide +kernel
theorem dL_law_493 : decode cL_law 493 = .ok (.iconst 0, 1) := by decide +kernel
theorem dL_law_494 : decode cL_law 494 = .ok (.aload_n 0, 1) := by decide +kernel
theorem dL_law_495 : decode cL_law 495 = .ok (.iload 4, 2) := by decide +kernel
theorem dL_law_497 : decode cL_law 497 = .ok (.iconst 4, 1) := by decide +kernel
theorem dL_law_498 : decode cL_law 498 = .ok (.iadd, 1) := by decide +kernel
theorem dL_law_499 : decode cL_law 499 = .ok (.iaload, 1) := by decide +kernel
theorem dL_law_500 : decode cL_law 500 = .ok (.aload_n 0, 1) := by decide +kernel
theorem dL_law_501 : decode cL_law 501 = .ok (.iload 4, 2) := by decide +kernel
theorem dL_law_503 : decode cL_law 503 = .ok (.iconst 5, 1) := by decide +kernel
theorem dL_law_504 : decode cL_law 504 = .ok (.iadd, 1) := by decide +kernel
theorem dL_law_505 : decode cL_law 505 = .ok (.iaload, 1) := by decide +kernel
theorem dL_law_506 : decode cL_law 506 = .ok (.aload_n 0, 1) := by decide +kernel
theorem dL_law_507 : decode cL_law 507 = .ok (.iload 4, 2) := by decide +kernel
theorem dL_law_509 : decode cL_law 509 = .ok (.bipush 6, 2) := by decide +kernel
theorem dL_law_511 : decode cL_law 511 = .ok (.iadd, 1) := by decide +kernel
theorem dL_law_512 : decode cL_law 512 = .ok (.iaload, 1) := by decide +kernel
theorem dL_law_513 : decode cL_law 513 = .ok (.aload_n 3, 1) := by decide +kernel
theorem dL_law_514 : decode cL_law 514 = .ok (.invokestatic 101, 3) := by decide +kernel
theorem dL_law_517 : decode cL_law 517 = .ok (.istore 5, 2) := by decide +kernel
theorem dL_law_519 : decode cL_law 519 = .ok (.aload_n 2, 1) := by decide +kernel
theorem dL_law_520 : decode cL_law 520 = .ok (.aload_n 0, 1) := by decide +kernel
theorem dL_law_521 : decode cL_law 521 = .ok (.iload 4, 2) := by decide +kernel
theorem dL_law_523 : decode cL_law 523 = .ok (.iconst 1, 1) := by decide +kernel
theorem dL_law_524 : decode cL_law 524 = .ok (.iadd, 1) := by decide +kernel
theorem dL_law_525 : decode cL_law 525 = .ok (.iaload, 1) := by decide +kernel
theorem dL_law_526 : decode cL_law 526 = .ok (.aload_n 0, 1) := by decide +kernel
theorem dL_law_527 : decode cL_law 527 = .ok (.iload 4, 2) := by decide +kernel
theorem dL_law_529 : decode cL_law 529 = .ok (.iconst 2, 1) := by decide +kernel
theorem dL_law_530 : decode cL_law 530 = .ok (.iadd, 1) := by decide +kernel
theorem dL_law_531 : decode cL_law 531 = .ok (.iaload, 1) := by decide +kernel
theorem dL_law_532 : decode cL_law 532 = .ok (.aload_n 0, 1) := by decide +kernel
theorem dL_law_533 : decode cL_law 533 = .ok (.iload 4, 2) := by decide +kernel
theorem dL_law_535 : decode cL_law 535 = .ok (.iconst 3, 1) := by decide +kernel
theorem dL_law_536 : decode cL_law 536 = .ok (.iadd, 1) := by decide +kernel
theorem dL_law_537 : decode cL_law 537 = .ok (.iaload, 1) := by decide +kernel
theorem dL_law_538 : decode cL_law 538 = .ok (.ifCond .eq 7, 3) := by decide +kernel
theorem dL_law_541 : decode cL_law 541 = .ok (.iconst 1, 1) := by decide +kernel
theorem dL_law_542 : decode cL_law 542 = .ok (.goto 4, 3) := by decide +kernel
theorem dL_law_545 : decode cL_law 545 = .ok (.iconst 0, 1) := by decide +kernel
theorem dL_law_546 : decode cL_law 546 = .ok (.aload_n 0, 1) := by decide +kernel
theorem dL_law_547 : decode cL_law 547 = .ok (.iload 4, 2) := by decide +kernel
theorem dL_law_549 : decode cL_law 549 = .ok (.iconst 4, 1) := by decide +kernel
theorem dL_law_550 : decode cL_law 550 = .ok (.iadd, 1) := by decide +kernel
theorem dL_law_551 : decode cL_law 551 = .ok (.iaload, 1) := by decide +kernel
theorem dL_law_552 : decode cL_law 552 = .ok (.aload_n 0, 1) := by decide +kernel
theorem dL_law_553 : decode cL_law 553 = .ok (.iload 4, 2) := by decide +kernel
theorem dL_law_555 : decode cL_law 555 = .ok (.iconst 5, 1) := by decide +kernel
theorem dL_law_556 : decode cL_law 556 = .ok (.iadd, 1) := by decide +kernel
theorem dL_law_557 : decode cL_law 557 = .ok (.iaload, 1) := by decide +kernel
theorem dL_law_558 : decode cL_law 558 = .ok (.aload_n 0, 1) := by decide +kernel
theorem dL_law_559 : decode cL_law 559 = .ok (.iload 4, 2) := by decide +kernel
theorem dL_law_561 : decode cL_law 561 = .ok (.bipush 6, 2) := by decide +kernel
theorem dL_law_563 : decode cL_law 563 = .ok (.iadd, 1) := by decide +kernel
theorem dL_law_564 : decode cL_law 564 = .ok (.iaload, 1) := by decide +kernel
theorem dL_law_565 : decode cL_law 565 = .ok (.invokevirtual 104, 3) := by decide +kernel
theorem dL_law_568 : decode cL_law 568 = .ok (.istore 6, 2) := by decide +kernel
theorem dL_law_570 : decode cL_law 570 = .ok (.aload_n 2, 1) := by decide +kernel
theorem dL_law_571 : decode cL_law 571 = .ok (.invokevirtual 84, 3) := by decide +kernel
theorem dL_law_574 : decode cL_law 574 = .ok (.iload 5, 2) := by decide +kernel
theorem dL_law_576 : decode cL_law 576 = .ok (.if_icmp .eq 5, 3) := by decide +kernel
theorem dL_law_579 : decode cL_law 579 = .ok (.iconst 0, 1) := by decide +kernel
theorem dL_law_580 : decode cL_law 580 = .ok (.ireturn, 1) := by decide +kernel
theorem dL_law_581 : decode cL_law 581 = .ok (.iload 5, 2) := by decide +kernel
theorem dL_law_583 : decode cL_law 583 = .ok (.ifCond .ne 15, 3) := by decide +kernel
theorem dL_law_586 : decode cL_law 586 = .ok (.aload_n 3, 1) := by decide +kernel
theorem dL_law_587 : decode cL_law 587 = .ok (.iconst 0, 1) := by decide +kernel
theorem dL_law_588 : decode cL_law 588 = .ok (.laload, 1) := by decide +kernel
theorem dL_law_589 : decode cL_law 589 = .ok (.iload 6, 2) := by decide +kernel
theorem dL_law_591 : decode cL_law 591 = .ok (.i2l, 1) := by decide +kernel
theorem dL_law_592 : decode cL_law 592 = .ok (.lcmp, 1) := by decide +kernel
theorem dL_law_593 : decode cL_law 593 = .ok (.ifCond .eq 5, 3) := by decide +kernel
theorem dL_law_596 : decode cL_law 596 = .ok (.iconst 0, 1) := by decide +kernel
theorem dL_law_597 : decode cL_law 597 = .ok (.ireturn, 1) := by decide +kernel
theorem dL_law_598 : decode cL_law 598 = .ok (.goto 728, 3) := by decide +kernel
theorem dL_law_601 : decode cL_law 601 = .ok (.aload_n 1, 1) := by decide +kernel
theorem dL_law_602 : decode cL_law 602 = .ok (.aload_n 0, 1) := by decide +kernel
theorem dL_law_603 : decode cL_law 603 = .ok (.iload 4, 2) := by decide +kernel
theorem dL_law_605 : decode cL_law 605 = .ok (.iconst 1, 1) := by decide +kernel
theorem dL_law_606 : decode cL_law 606 = .ok (.iadd, 1) := by decide +kernel
theorem dL_law_607 : decode cL_law 607 = .ok (.iaload, 1) := by decide +kernel
theorem dL_law_608 : decode cL_law 608 = .ok (.aload_n 0, 1) := by decide +kernel
theorem dL_law_609 : decode cL_law 609 = .ok (.iload 4, 2) := by decide +kernel
theorem dL_law_611 : decode cL_law 611 = .ok (.iconst 2, 1) := by decide +kernel
theorem dL_law_612 : decode cL_law 612 = .ok (.iadd, 1) := by decide +kernel
theorem dL_law_613 : decode cL_law 613 = .ok (.iaload, 1) := by decide +kernel
theorem dL_law_614 : decode cL_law 614 = .ok (.aload_n 3, 1) := by decide +kernel
theorem dL_law_615 : decode cL_law 615 = .ok (.invokestatic 105, 3) := by decide +kernel
theorem dL_law_618 : decode cL_law 618 = .ok (.istore 5, 2) := by decide +kernel
theorem dL_law_620 : decode cL_law 620 = .ok (.aload_n 2, 1) := by decide +kernel
theorem dL_law_621 : decode cL_law 621 = .ok (.aload_n 0, 1) := by decide +kernel
theorem dL_law_622 : decode cL_law 622 = .ok (.iload 4, 2) := by decide +kernel
theorem dL_law_624 : decode cL_law 624 = .ok (.iconst 1, 1) := by decide +kernel
theorem dL_law_625 : decode cL_law 625 = .ok (.iadd, 1) := by decide +kernel
theorem dL_law_626 : decode cL_law 626 = .ok (.iaload, 1) := by decide +kernel
theorem dL_law_627 : decode cL_law 627 = .ok (.aload_n 0, 1) := by decide +kernel
theorem dL_law_628 : decode cL_law 628 = .ok (.iload 4, 2) := by decide +kernel
theorem dL_law_630 : decode cL_law 630 = .ok (.iconst 2, 1) := by decide +kernel
theorem dL_law_631 : decode cL_law 631 = .ok (.iadd, 1) := by decide +kernel
theorem dL_law_632 : decode cL_law 632 = .ok (.iaload, 1) := by decide +kernel
theorem dL_law_633 : decode cL_law 633 = .ok (.invokevirtual 107, 3) := by decide +kernel
theorem dL_law_636 : decode cL_law 636 = .ok (.istore 6, 2) := by decide +kernel
theorem dL_law_638 : decode cL_law 638 = .ok (.aload_n 2, 1) := by decide +kernel
theorem dL_law_639 : decode cL_law 639 = .ok (.invokevirtual 84, 3) := by decide +kernel
theorem dL_law_642 : decode cL_law 642 = .ok (.iload 5, 2) := by decide +kernel
theorem dL_law_644 : decode cL_law 644 = .ok (.if_icmp .eq 5, 3) := by decide +kernel
theorem dL_law_647 : decode cL_law 647 = .ok (.iconst 0, 1) := by decide +kernel
theorem dL_law_648 : decode cL_law 648 = .ok (.ireturn, 1) := by decide +kernel
theorem dL_law_649 : decode cL_law 649 = .ok (.iload 5, 2) := by decide +kernel
theorem dL_law_651 : decode cL_law 651 = .ok (.ifCond .ne 15, 3) := by decide +kernel
theorem dL_law_654 : decode cL_law 654 = .ok (.aload_n 3, 1) := by decide +kernel
theorem dL_law_655 : decode cL_law 655 = .ok (.iconst 0, 1) := by decide +kernel
theorem dL_law_656 : decode cL_law 656 = .ok (.laload, 1) := by decide +kernel
theorem dL_law_657 : decode cL_law 657 = .ok (.iload 6, 2) := by decide +kernel
theorem dL_law_659 : decode cL_law 659 = .ok (.i2l, 1) := by decide +kernel
theorem dL_law_660 : decode cL_law 660 = .ok (.lcmp, 1) := by decide +kernel
theorem dL_law_661 : decode cL_law 661 = .ok (.ifCond .eq 5, 3) := by decide +kernel
theorem dL_law_664 : decode cL_law 664 = .ok (.iconst 0, 1) := by decide +kernel
theorem dL_law_665 : decode cL_law 665 = .ok (.ireturn, 1) := by decide +kernel
theorem dL_law_666 : decode cL_law 666 = .ok (.goto 660, 3) := by decide +kernel
theorem dL_law_669 : decode cL_law 669 = .ok (.aload_n 1, 1) := by decide +kernel
theorem dL_law_670 : decode cL_law 670 = .ok (.aload_n 0, 1) := by decide +kernel
theorem dL_law_671 : decode cL_law 671 = .ok (.iload 4, 2) := by decide +kernel
theorem dL_law_673 : decode cL_law 673 = .ok (.iconst 1, 1) := by decide +kernel
theorem dL_law_674 : decode cL_law 674 = .ok (.iadd, 1) := by decide +kernel
theorem dL_law_675 : decode cL_law 675 = .ok (.iaload, 1) := by decide +kernel
theorem dL_law_676 : decode cL_law 676 = .ok (.aload_n 0, 1) := by decide +kernel
theorem dL_law_677 : decode cL_law 677 = .ok (.iload 4, 2) := by decide +kernel
theorem dL_law_679 : decode cL_law 679 = .ok (.iconst 2, 1) := by decide +kernel
theorem dL_law_680 : decode cL_law 680 = .ok (.iadd, 1) := by decide +kernel
theorem dL_law_681 : decode cL_law 681 = .ok (.iaload, 1) := by decide +kernel
theorem dL_law_682 : decode cL_law 682 = .ok (.aload_n 0, 1) := by decide +kernel
theorem dL_law_683 : decode cL_law 683 = .ok (.iload 4, 2) := by decide +kernel
theorem dL_law_685 : decode cL_law 685 = .ok (.iconst 3, 1) := by decide +kernel
theorem dL_law_686 : decode cL_law 686 = .ok (.iadd, 1) := by decide +kernel
theorem dL_law_687 : decode cL_law 687 = .ok (.iaload, 1) := by decide +kernel
theorem dL_law_688 : decode cL_law 688 = .ok (.ifCond .eq 7, 3) := by decide +kernel
theorem dL_law_691 : decode cL_law 691 = .ok (.iconst 1, 1) := by decide +kernel
theorem dL_law_692 : decode cL_law 692 = .ok (.goto 4, 3) := by decide +kernel
theorem dL_law_695 : decode cL_law 695 = .ok (.iconst 0, 1) := by decide +kernel
theorem dL_law_696 : decode cL_law 696 = .ok (.aload_n 3, 1) := by decide +kernel
theorem dL_law_697 : decode cL_law 697 = .ok (.invokestatic 108, 3) := by decide +kernel
theorem dL_law_700 : decode cL_law 700 = .ok (.istore 5, 2) := by decide +kernel
theorem dL_law_702 : decode cL_law 702 = .ok (.aload_n 2, 1) := by decide +kernel
theorem dL_law_703 : decode cL_law 703 = .ok (.aload_n 0, 1) := by decide +kernel
theorem dL_law_704 : decode cL_law 704 = .ok (.iload 4, 2) := by decide +kernel
theorem dL_law_706 : decode cL_law 706 = .ok (.iconst 1, 1) := by decide +kernel
theorem dL_law_707 : decode cL_law 707 = .ok (.iadd, 1) := by decide +kernel
theorem dL_law_708 : decode cL_law 708 = .ok (.iaload, 1) := by decide +kernel
theorem dL_law_709 : decode cL_law 709 = .ok (.aload_n 0, 1) := by decide +kernel
theorem dL_law_710 : decode cL_law 710 = .ok (.iload 4, 2) := by decide +kernel
theorem dL_law_712 : decode cL_law 712 = .ok (.iconst 2, 1) := by decide +kernel
theorem dL_law_713 : decode cL_law 713 = .ok (.iadd, 1) := by decide +kernel
theorem dL_law_714 : decode cL_law 714 = .ok (.iaload, 1) := by decide +kernel
theorem dL_law_715 : decode cL_law 715 = .ok (.aload_n 0, 1) := by decide +kernel
theorem dL_law_716 : decode cL_law 716 = .ok (.iload 4, 2) := by decide +kernel
theorem dL_law_718 : decode cL_law 718 = .ok (.iconst 3, 1) := by decide +kernel
theorem dL_law_719 : decode cL_law 719 = .ok (.iadd, 1) := by decide +kernel
theorem dL_law_720 : decode cL_law 720 = .ok (.iaload, 1) := by decide +kernel
theorem dL_law_721 : decode cL_law 721 = .ok (.ifCond .eq 7, 3) := by decide +kernel
theorem dL_law_724 : decode cL_law 724 = .ok (.iconst 1, 1) := by decide +kernel
theorem dL_law_725 : decode cL_law 725 = .ok (.goto 4, 3) := by decide +kernel
theorem dL_law_728 : decode cL_law 728 = .ok (.iconst 0, 1) := by decide +kernel
theorem dL_law_729 : decode cL_law 729 = .ok (.invokevirtual 111, 3) := by decide +kernel
theorem dL_law_732 : decode cL_law 732 = .ok (.istore 6, 2) := by decide +kernel
theorem dL_law_734 : decode cL_law 734 = .ok (.aload_n 2, 1) := by decide +kernel
theorem dL_law_735 : decode cL_law 735 = .ok (.invokevirtual 84, 3) := by decide +kernel
theorem dL_law_738 : decode cL_law 738 = .ok (.iload 5, 2) := by decide +kernel
theorem dL_law_740 : decode cL_law 740 = .ok (.if_icmp .eq 5, 3) := by decide +kernel
theorem dL_law_743 : decode cL_law 743 = .ok (.iconst 0, 1) := by decide +kernel
theorem dL_law_744 : decode cL_law 744 = .ok (.ireturn, 1) := by decide +kernel
theorem dL_law_745 : decode cL_law 745 = .ok (.iload 5, 2) := by decide +kernel
theorem dL_law_747 : decode cL_law 747 = .ok (.ifCond .ne 15, 3) := by decide +kernel
theorem dL_law_750 : decode cL_law 750 = .ok (.aload_n 3, 1) := by decide +kernel
theorem dL_law_751 : decode cL_law 751 = .ok (.iconst 0, 1) := by decide +kernel
theorem dL_law_752 : decode cL_law 752 = .ok (.laload, 1) := by decide +kernel
theorem dL_law_753 : decode cL_law 753 = .ok (.iload 6, 2) := by decide +kernel
theorem dL_law_755 : decode cL_law 755 = .ok (.i2l, 1) := by decide +kernel
theorem dL_law_756 : decode cL_law 756 = .ok (.lcmp, 1) := by decide +kernel
theorem dL_law_757 : decode cL_law 757 = .ok (.ifCond .eq 5, 3) := by decide +kernel
theorem dL_law_760 : decode cL_law 760 = .ok (.iconst 0, 1) := by decide +kernel
theorem dL_law_761 : decode cL_law 761 = .ok (.ireturn, 1) := by decide +kernel
theorem dL_law_762 : decode cL_law 762 = .ok (.goto 564, 3) := by decide +kernel
theorem dL_law_765 : decode cL_law 765 = .ok (.aload_n 1, 1) := by decide +kernel
theorem dL_law_766 : decode cL_law 766 = .ok (.aload_n 0, 1) := by decide +kernel
theorem dL_law_767 : decode cL_law 767 = .ok (.iload 4, 2) := by decide +kernel
theorem dL_law_769 : decode cL_law 769 = .ok (.iconst 1, 1) := by decide +kernel
theorem dL_law_770 : decode cL_law 770 = .ok (.iadd, 1) := by decide +kernel
theorem dL_law_771 : decode cL_law 771 = .ok (.iaload, 1) := by decide +kernel
theorem dL_law_772 : decode cL_law 772 = .ok (.aload_n 3, 1) := by decide +kernel
theorem dL_law_773 : decode cL_law 773 = .ok (.invokestatic 112, 3) := by decide +kernel
theorem dL_law_776 : decode cL_law 776 = .ok (.istore 5, 2) := by decide +kernel
theorem dL_law_778 : decode cL_law 778 = .ok (.aload_n 2, 1) := by decide +kernel
theorem dL_law_779 : decode cL_law 779 = .ok (.aload_n 0, 1) := by decide +kernel
theorem dL_law_780 : decode cL_law 780 = .ok (.iload 4, 2) := by decide +kernel
theorem dL_law_782 : decode cL_law 782 = .ok (.iconst 1, 1) := by decide +kernel
theorem dL_law_783 : decode cL_law 783 = .ok (.iadd, 1) := by decide +kernel
theorem dL_law_784 : decode cL_law 784 = .ok (.iaload, 1) := by decide +kernel
theorem dL_law_785 : decode cL_law 785 = .ok (.invokevirtual 114, 3) := by decide +kernel
theorem dL_law_788 : decode cL_law 788 = .ok (.lstore 6, 2) := by decide +kernel
theorem dL_law_790 : decode cL_law 790 = .ok (.aload_n 2, 1) := by decide +kernel
theorem dL_law_791 : decode cL_law 791 = .ok (.invokevirtual 84, 3) := by decide +kernel
theorem dL_law_794 : decode cL_law 794 = .ok (.iload 5, 2) := by decide +kernel
theorem dL_law_796 : decode cL_law 796 = .ok (.if_icmp .eq 5, 3) := by decide +kernel
theorem dL_law_799 : decode cL_law 799 = .ok (.iconst 0, 1) := by decide +kernel
theorem dL_law_800 : decode cL_law 800 = .ok (.ireturn, 1) := by decide +kernel
theorem dL_law_801 : decode cL_law 801 = .ok (.iload 5, 2) := by decide +kernel
theorem dL_law_803 : decode cL_law 803 = .ok (.ifCond .ne 14, 3) := by decide +kernel
theorem dL_law_806 : decode cL_law 806 = .ok (.aload_n 3, 1) := by decide +kernel
theorem dL_law_807 : decode cL_law 807 = .ok (.iconst 0, 1) := by decide +kernel
theorem dL_law_808 : decode cL_law 808 = .ok (.laload, 1) := by decide +kernel
theorem dL_law_809 : decode cL_law 809 = .ok (.lload 6, 2) := by decide +kernel
theorem dL_law_811 : decode cL_law 811 = .ok (.lcmp, 1) := by decide +kernel
theorem dL_law_812 : decode cL_law 812 = .ok (.ifCond .eq 5, 3) := by decide +kernel
theorem dL_law_815 : decode cL_law 815 = .ok (.iconst 0, 1) := by decide +kernel
theorem dL_law_816 : decode cL_law 816 = .ok (.ireturn, 1) := by decide +kernel
theorem dL_law_817 : decode cL_law 817 = .ok (.goto 509, 3) := by decide +kernel
theorem dL_law_820 : decode cL_law 820 = .ok (.aload_n 1, 1) := by decide +kernel
theorem dL_law_821 : decode cL_law 821 = .ok (.aload_n 0, 1) := by decide +kernel
theorem dL_law_822 : decode cL_law 822 = .ok (.iload 4, 2) := by decide +kernel
theorem dL_law_824 : decode cL_law 824 = .ok (.iconst 1, 1) := by decide +kernel
theorem dL_law_825 : decode cL_law 825 = .ok (.iadd, 1) := by decide +kernel
theorem dL_law_826 : decode cL_law 826 = .ok (.iaload, 1) := by decide +kernel
theorem dL_law_827 : decode cL_law 827 = .ok (.aload_n 3, 1) := by decide +kernel
theorem dL_law_828 : decode cL_law 828 = .ok (.invokestatic 115, 3) := by decide +kernel
theorem dL_law_831 : decode cL_law 831 = .ok (.istore 5, 2) := by decide +kernel
theorem dL_law_833 : decode cL_law 833 = .ok (.aload_n 2, 1) := by decide +kernel
theorem dL_law_834 : decode cL_law 834 = .ok (.aload_n 0, 1) := by decide +kernel
theorem dL_law_835 : decode cL_law 835 = .ok (.iload 4, 2) := by decide +kernel
theorem dL_law_837 : decode cL_law 837 = .ok (.iconst 1, 1) := by decide +kernel
theorem dL_law_838 : decode cL_law 838 = .ok (.iadd, 1) := by decide +kernel
theorem dL_law_839 : decode cL_law 839 = .ok (.iaload, 1) := by decide +kernel
theorem dL_law_840 : decode cL_law 840 = .ok (.invokevirtual 117, 3) := by decide +kernel
theorem dL_law_843 : decode cL_law 843 = .ok (.istore 6, 2) := by decide +kernel
theorem dL_law_845 : decode cL_law 845 = .ok (.aload_n 2, 1) := by decide +kernel
theorem dL_law_846 : decode cL_law 846 = .ok (.invokevirtual 84, 3) := by decide +kernel
theorem dL_law_849 : decode cL_law 849 = .ok (.iload 5, 2) := by decide +kernel
theorem dL_law_851 : decode cL_law 851 = .ok (.if_icmp .eq 5, 3) := by decide +kernel
theorem dL_law_854 : decode cL_law 854 = .ok (.iconst 0, 1) := by decide +kernel
theorem dL_law_855 : decode cL_law 855 = .ok (.ireturn, 1) := by decide +kernel
theorem dL_law_856 : decode cL_law 856 = .ok (.iload 5, 2) := by decide +kernel
theorem dL_law_858 : decode cL_law 858 = .ok (.ifCond .ne 15, 3) := by decide +kernel
theorem dL_law_861 : decode cL_law 861 = .ok (.aload_n 3, 1) := by decide +kernel
theorem dL_law_862 : decode cL_law 862 = .ok (.iconst 0, 1) := by decide +kernel
theorem dL_law_863 : decode cL_law 863 = .ok (.laload, 1) := by decide +kernel
theorem dL_law_864 : decode cL_law 864 = .ok (.iload 6, 2) := by decide +kernel
theorem dL_law_866 : decode cL_law 866 = .ok (.i2l, 1) := by decide +kernel
theorem dL_law_867 : decode cL_law 867 = .ok (.lcmp, 1) := by decide +kernel
theorem dL_law_868 : decode cL_law 868 = .ok (.ifCond .eq 5, 3) := by decide +kernel
theorem dL_law_871 : decode cL_law 871 = .ok (.iconst 0, 1) := by decide +kernel
theorem dL_law_872 : decode cL_law 872 = .ok (.ireturn, 1) := by decide +kernel
theorem dL_law_873 : decode cL_law 873 = .ok (.goto 453, 3) := by decide +kernel
theorem dL_law_876 : decode cL_law 876 = .ok (.aload_n 1, 1) := by decide +kernel
theorem dL_law_877 : decode cL_law 877 = .ok (.aload_n 0, 1) := by decide +kernel
theorem dL_law_878 : decode cL_law 878 = .ok (.iload 4, 2) := by decide +kernel
theorem dL_law_880 : decode cL_law 880 = .ok (.iconst 1, 1) := by decide +kernel
theorem dL_law_881 : decode cL_law 881 = .ok (.iadd, 1) := by decide +kernel
theorem dL_law_882 : decode cL_law 882 = .ok (.iaload, 1) := by decide +kernel
theorem dL_law_883 : decode cL_law 883 = .ok (.aload_n 3, 1) := by decide +kernel
theorem dL_law_884 : decode cL_law 884 = .ok (.invokestatic 118, 3) := by decide +kernel
theorem dL_law_887 : decode cL_law 887 = .ok (.istore 5, 2) := by decide +kernel
theorem dL_law_889 : decode cL_law 889 = .ok (.aload_n 2, 1) := by decide +kernel
theorem dL_law_890 : decode cL_law 890 = .ok (.aload_n 0, 1) := by decide +kernel
theorem dL_law_891 : decode cL_law 891 = .ok (.iload 4, 2) := by decide +kernel
theorem dL_law_893 : decode cL_law 893 = .ok (.iconst 1, 1) := by decide +kernel
theorem dL_law_894 : decode cL_law 894 = .ok (.iadd, 1) := by decide +kernel
theorem dL_law_895 : decode cL_law 895 = .ok (.iaload, 1) := by decide +kernel
theorem dL_law_896 : decode cL_law 896 = .ok (.invokevirtual 120, 3) := by decide +kernel
theorem dL_law_899 : decode cL_law 899 = .ok (.istore 6, 2) := by decide +kernel
theorem dL_law_901 : decode cL_law 901 = .ok (.aload_n 2, 1) := by decide +kernel
theorem dL_law_902 : decode cL_law 902 = .ok (.invokevirtual 84, 3) := by decide +kernel
theorem dL_law_905 : decode cL_law 905 = .ok (.iload 5, 2) := by decide +kernel
theorem dL_law_907 : decode cL_law 907 = .ok (.if_icmp .eq 5, 3) := by decide +kernel
theorem dL_law_910 : decode cL_law 910 = .ok (.iconst 0, 1) := by decide +kernel
theorem dL_law_911 : decode cL_law 911 = .ok (.ireturn, 1) := by decide +kernel
theorem dL_law_912 : decode cL_law 912 = .ok (.iload 5, 2) := by decide +kernel
theorem dL_law_914 : decode cL_law 914 = .ok (.ifCond .ne 15, 3) := by decide +kernel
theorem dL_law_917 : decode cL_law 917 = .ok (.aload_n 3, 1) := by decide +kernel
theorem dL_law_918 : decode cL_law 918 = .ok (.iconst 0, 1) := by decide +kernel
theorem dL_law_919 : decode cL_law 919 = .ok (.laload, 1) := by decide +kernel
theorem dL_law_920 : decode cL_law 920 = .ok (.iload 6, 2) := by decide +kernel
theorem dL_law_922 : decode cL_law 922 = .ok (.i2l, 1) := by decide +kernel
theorem dL_law_923 : decode cL_law 923 = .ok (.lcmp, 1) := by decide +kernel
theorem dL_law_924 : decode cL_law 924 = .ok (.ifCond .eq 5, 3) := by decide +kernel
theorem dL_law_927 : decode cL_law 927 = .ok (.iconst 0, 1) := by decide +kernel
theorem dL_law_928 : decode cL_law 928 = .ok (.ireturn, 1) := by decide +kernel
theorem dL_law_929 : decode cL_law 929 = .ok (.goto 397, 3) := by decide +kernel
theorem dL_law_932 : decode cL_law 932 = .ok (.aload_n 1, 1) := by decide +kernel
theorem dL_law_933 : decode cL_law 933 = .ok (.aload_n 0, 1) := by decide +kernel
theorem dL_law_934 : decode cL_law 934 = .ok (.iload 4, 2) := by decide +kernel
theorem dL_law_936 : decode cL_law 936 = .ok (.iconst 1, 1) := by decide +kernel
theorem dL_law_937 : decode cL_law 937 = .ok (.iadd, 1) := by decide +kernel
theorem dL_law_938 : decode cL_law 938 = .ok (.iaload, 1) := by decide +kernel
theorem dL_law_939 : decode cL_law 939 = .ok (.aload_n 3, 1) := by decide +kernel
theorem dL_law_940 : decode cL_law 940 = .ok (.invokestatic 121, 3) := by decide +kernel
theorem dL_law_943 : decode cL_law 943 = .ok (.istore 5, 2) := by decide +kernel
theorem dL_law_945 : decode cL_law 945 = .ok (.aload_n 2, 1) := by decide +kernel
theorem dL_law_946 : decode cL_law 946 = .ok (.aload_n 0, 1) := by decide +kernel
theorem dL_law_947 : decode cL_law 947 = .ok (.iload 4, 2) := by decide +kernel
theorem dL_law_949 : decode cL_law 949 = .ok (.iconst 1, 1) := by decide +kernel
theorem dL_law_950 : decode cL_law 950 = .ok (.iadd, 1) := by decide +kernel
theorem dL_law_951 : decode cL_law 951 = .ok (.iaload, 1) := by decide +kernel
theorem dL_law_952 : decode cL_law 952 = .ok (.invokevirtual 123, 3) := by decide +kernel
theorem dL_law_955 : decode cL_law 955 = .ok (.istore 6, 2) := by decide +kernel
theorem dL_law_957 : decode cL_law 957 = .ok (.aload_n 2, 1) := by decide +kernel
theorem dL_law_958 : decode cL_law 958 = .ok (.invokevirtual 84, 3) := by decide +kernel
theorem dL_law_961 : decode cL_law 961 = .ok (.iload 5, 2) := by decide +kernel
theorem dL_law_963 : decode cL_law 963 = .ok (.if_icmp .eq 5, 3) := by decide +kernel
theorem dL_law_966 : decode cL_law 966 = .ok (.iconst 0, 1) := by decide +kernel
theorem dL_law_967 : decode cL_law 967 = .ok (.ireturn, 1) := by decide +kernel
theorem dL_law_968 : decode cL_law 968 = .ok (.iload 5, 2) := by decide +kernel
theorem dL_law_970 : decode cL_law 970 = .ok (.ifCond .ne 15, 3) := by decide +kernel
theorem dL_law_973 : decode cL_law 973 = .ok (.aload_n 3, 1) := by decide +kernel
theorem dL_law_974 : decode cL_law 974 = .ok (.iconst 0, 1) := by decide +kernel
theorem dL_law_975 : decode cL_law 975 = .ok (.laload, 1) := by decide +kernel
theorem dL_law_976 : decode cL_law 976 = .ok (.iload 6, 2) := by decide +kernel
theorem dL_law_978 : decode cL_law 978 = .ok (.i2l, 1) := by decide +kernel
theorem dL_law_979 : decode cL_law 979 = .ok (.lcmp, 1) := by decide +kernel
theorem dL_law_980 : decode cL_law 980 = .ok (.ifCond .eq 5, 3) := by decide +kernel
theorem dL_law_983 : decode cL_law 983 = .ok (.iconst 0, 1) := by decide +kernel
theorem dL_law_984 : decode cL_law 984 = .ok (.ireturn, 1) := by decide +kernel
theorem dL_law_985 : decode cL_law 985 = .ok (.goto 341, 3) := by decide +kernel
theorem dL_law_988 : decode cL_law 988 = .ok (.aload_n 1, 1) := by decide +kernel
theorem dL_law_989 : decode cL_law 989 = .ok (.aload_n 0, 1) := by decide +kernel
theorem dL_law_990 : decode cL_law 990 = .ok (.iload 4, 2) := by decide +kernel
theorem dL_law_992 : decode cL_law 992 = .ok (.iconst 1, 1) := by decide +kernel
theorem dL_law_993 : decode cL_law 993 = .ok (.iadd, 1) := by decide +kernel
theorem dL_law_994 : decode cL_law 994 = .ok (.iaload, 1) := by decide +kernel
theorem dL_law_995 : decode cL_law 995 = .ok (.aload_n 3, 1) := by decide +kernel
theorem dL_law_996 : decode cL_law 996 = .ok (.invokestatic 124, 3) := by decide +kernel
theorem dL_law_999 : decode cL_law 999 = .ok (.istore 5, 2) := by decide +kernel
theorem dL_law_1001 : decode cL_law 1001 = .ok (.aload_n 2, 1) := by decide +kernel
theorem dL_law_1002 : decode cL_law 1002 = .ok (.aload_n 0, 1) := by decide +kernel
theorem dL_law_1003 : decode cL_law 1003 = .ok (.iload 4, 2) := by decide +kernel
theorem dL_law_1005 : decode cL_law 1005 = .ok (.iconst 1, 1) := by decide +kernel
theorem dL_law_1006 : decode cL_law 1006 = .ok (.iadd, 1) := by decide +kernel
theorem dL_law_1007 : decode cL_law 1007 = .ok (.iaload, 1) := by decide +kernel
theorem dL_law_1008 : decode cL_law 1008 = .ok (.invokevirtual 126, 3) := by decide +kernel
theorem dL_law_1011 : decode cL_law 1011 = .ok (.lstore 6, 2) := by decide +kernel
theorem dL_law_1013 : decode cL_law 1013 = .ok (.aload_n 2, 1) := by decide +kernel
theorem dL_law_1014 : decode cL_law 1014 = .ok (.invokevirtual 84, 3) := by decide +kernel
theorem dL_law_1017 : decode cL_law 1017 = .ok (.iload 5, 2) := by decide +kernel
theorem dL_law_1019 : decode cL_law 1019 = .ok (.if_icmp .eq 5, 3) := by decide +kernel
theorem dL_law_1022 : decode cL_law 1022 = .ok (.iconst 0, 1) := by decide +kernel
theorem dL_law_1023 : decode cL_law 1023 = .ok (.ireturn, 1) := by decide +kernel
theorem dL_law_1024 : decode cL_law 1024 = .ok (.iload 5, 2) := by decide +kernel
theorem dL_law_1026 : decode cL_law 1026 = .ok (.ifCond .ne 14, 3) := by decide +kernel
theorem dL_law_1029 : decode cL_law 1029 = .ok (.aload_n 3, 1) := by decide +kernel
theorem dL_law_1030 : decode cL_law 1030 = .ok (.iconst 0, 1) := by decide +kernel
theorem dL_law_1031 : decode cL_law 1031 = .ok (.laload, 1) := by decide +kernel
theorem dL_law_1032 : decode cL_law 1032 = .ok (.lload 6, 2) := by decide +kernel
theorem dL_law_1034 : decode cL_law 1034 = .ok (.lcmp, 1) := by decide +kernel
theorem dL_law_1035 : decode cL_law 1035 = .ok (.ifCond .eq 5, 3) := by decide +kernel
theorem dL_law_1038 : decode cL_law 1038 = .ok (.iconst 0, 1) := by decide +kernel
theorem dL_law_1039 : decode cL_law 1039 = .ok (.ireturn, 1) := by decide +kernel
theorem dL_law_1040 : decode cL_law 1040 = .ok (.goto 286, 3) := by decide +kernel
theorem dL_law_1043 : decode cL_law 1043 = .ok (.aload_n 1, 1) := by decide +kernel
theorem dL_law_1044 : decode cL_law 1044 = .ok (.aload_n 0, 1) := by decide +kernel
theorem dL_law_1045 : decode cL_law 1045 = .ok (.iload 4, 2) := by decide +kernel
theorem dL_law_1047 : decode cL_law 1047 = .ok (.iconst 1, 1) := by decide +kernel
theorem dL_law_1048 : decode cL_law 1048 = .ok (.iadd, 1) := by decide +kernel
theorem dL_law_1049 : decode cL_law 1049 = .ok (.iaload, 1) := by decide +kernel
theorem dL_law_1050 : decode cL_law 1050 = .ok (.aload_n 3, 1) := by decide +kernel
theorem dL_law_1051 : decode cL_law 1051 = .ok (.invokestatic 127, 3) := by decide +kernel
theorem dL_law_1054 : decode cL_law 1054 = .ok (.istore 5, 2) := by decide +kernel
theorem dL_law_1056 : decode cL_law 1056 = .ok (.aload_n 2, 1) := by decide +kernel
theorem dL_law_1057 : decode cL_law 1057 = .ok (.aload_n 0, 1) := by decide +kernel
theorem dL_law_1058 : decode cL_law 1058 = .ok (.iload 4, 2) := by decide +kernel
theorem dL_law_1060 : decode cL_law 1060 = .ok (.iconst 1, 1) := by decide +kernel
theorem dL_law_1061 : decode cL_law 1061 = .ok (.iadd, 1) := by decide +kernel
theorem dL_law_1062 : decode cL_law 1062 = .ok (.iaload, 1) := by decide +kernel
theorem dL_law_1063 : decode cL_law 1063 = .ok (.invokevirtual 129, 3) := by decide +kernel
theorem dL_law_1066 : decode cL_law 1066 = .ok (.lstore 6, 2) := by decide +kernel
theorem dL_law_1068 : decode cL_law 1068 = .ok (.aload_n 2, 1) := by decide +kernel
theorem dL_law_1069 : decode cL_law 1069 = .ok (.invokevirtual 84, 3) := by decide +kernel
theorem dL_law_1072 : decode cL_law 1072 = .ok (.iload 5, 2) := by decide +kernel
theorem dL_law_1074 : decode cL_law 1074 = .ok (.if_icmp .eq 5, 3) := by decide +kernel
theorem dL_law_1077 : decode cL_law 1077 = .ok (.iconst 0, 1) := by decide +kernel
theorem dL_law_1078 : decode cL_law 1078 = .ok (.ireturn, 1) := by decide +kernel
theorem dL_law_1079 : decode cL_law 1079 = .ok (.iload 5, 2) := by decide +kernel
theorem dL_law_1081 : decode cL_law 1081 = .ok (.ifCond .ne 14, 3) := by decide +kernel
theorem dL_law_1084 : decode cL_law 1084 = .ok (.aload_n 3, 1) := by decide +kernel
theorem dL_law_1085 : decode cL_law 1085 = .ok (.iconst 0, 1) := by decide +kernel
theorem dL_law_1086 : decode cL_law 1086 = .ok (.laload, 1) := by decide +kernel
theorem dL_law_1087 : decode cL_law 1087 = .ok (.lload 6, 2) := by decide +kernel
theorem dL_law_1089 : decode cL_law 1089 = .ok (.lcmp, 1) := by decide +kernel
theorem dL_law_1090 : decode cL_law 1090 = .ok (.ifCond .eq 5, 3) := by decide +kernel
theorem dL_law_1093 : decode cL_law 1093 = .ok (.iconst 0, 1) := by decide +kernel
theorem dL_law_1094 : decode cL_law 1094 = .ok (.ireturn, 1) := by decide +kernel
theorem dL_law_1095 : decode cL_law 1095 = .ok (.goto 231, 3) := by decide +kernel
theorem dL_law_1098 : decode cL_law 1098 = .ok (.aload_n 1, 1) := by decide +kernel
theorem dL_law_1099 : decode cL_law 1099 = .ok (.invokevirtual 130, 3) := by decide +kernel
theorem dL_law_1102 : decode cL_law 1102 = .ok (.aload_n 2, 1) := by decide +kernel
theorem dL_law_1103 : decode cL_law 1103 = .ok (.invokevirtual 133, 3) := by decide +kernel
theorem dL_law_1106 : decode cL_law 1106 = .ok (.if_icmp .eq 220, 3) := by decide +kernel
theorem dL_law_1109 : decode cL_law 1109 = .ok (.iconst 0, 1) := by decide +kernel
theorem dL_law_1110 : decode cL_law 1110 = .ok (.ireturn, 1) := by decide +kernel
theorem dL_law_1111 : decode cL_law 1111 = .ok (.aload_n 1, 1) := by decide +kernel
theorem dL_law_1112 : decode cL_law 1112 = .ok (.aload_n 0, 1) := by decide +kernel
theorem dL_law_1113 : decode cL_law 1113 = .ok (.iload 4, 2) := by decide +kernel
theorem dL_law_1115 : decode cL_law 1115 = .ok (.iconst 1, 1) := by decide +kernel
theorem dL_law_1116 : decode cL_law 1116 = .ok (.iadd, 1) := by decide +kernel
theorem dL_law_1117 : decode cL_law 1117 = .ok (.iaload, 1) := by decide +kernel
theorem dL_law_1118 : decode cL_law 1118 = .ok (.aload_n 0, 1) := by decide +kernel
theorem dL_law_1119 : decode cL_law 1119 = .ok (.iload 4, 2) := by decide +kernel
theorem dL_law_1121 : decode cL_law 1121 = .ok (.iconst 2, 1) := by decide +kernel
theorem dL_law_1122 : decode cL_law 1122 = .ok (.iadd, 1) := by decide +kernel
theorem dL_law_1123 : decode cL_law 1123 = .ok (.iaload, 1) := by decide +kernel
theorem dL_law_1124 : decode cL_law 1124 = .ok (.aload_n 0, 1) := by decide +kernel
theorem dL_law_1125 : decode cL_law 1125 = .ok (.iload 4, 2) := by decide +kernel
theorem dL_law_1127 : decode cL_law 1127 = .ok (.iconst 3, 1) := by decide +kernel
theorem dL_law_1128 : decode cL_law 1128 = .ok (.iadd, 1) := by decide +kernel
theorem dL_law_1129 : decode cL_law 1129 = .ok (.iaload, 1) := by decide +kernel
theorem dL_law_1130 : decode cL_law 1130 = .ok (.aload_n 3, 1) := by decide +kernel
theorem dL_law_1131 : decode cL_law 1131 = .ok (.invokestatic 134, 3) := by decide +kernel
theorem dL_law_1134 : decode cL_law 1134 = .ok (.istore 5, 2) := by decide +kernel
theorem dL_law_1136 : decode cL_law 1136 = .ok (.aload_n 2, 1) := by decide +kernel
theorem dL_law_1137 : decode cL_law 1137 = .ok (.aload_n 0, 1) := by decide +kernel
theorem dL_law_1138 : decode cL_law 1138 = .ok (.iload 4, 2) := by decide +kernel
theorem dL_law_1140 : decode cL_law 1140 = .ok (.iconst 1, 1) := by decide +kernel
theorem dL_law_1141 : decode cL_law 1141 = .ok (.iadd, 1) := by decide +kernel
theorem dL_law_1142 : decode cL_law 1142 = .ok (.iaload, 1) := by decide +kernel
theorem dL_law_1143 : decode cL_law 1143 = .ok (.aload_n 0, 1) := by decide +kernel
theorem dL_law_1144 : decode cL_law 1144 = .ok (.iload 4, 2) := by decide +kernel
theorem dL_law_1146 : decode cL_law 1146 = .ok (.iconst 2, 1) := by decide +kernel
theorem dL_law_1147 : decode cL_law 1147 = .ok (.iadd, 1) := by decide +kernel
theorem dL_law_1148 : decode cL_law 1148 = .ok (.iaload, 1) := by decide +kernel
theorem dL_law_1149 : decode cL_law 1149 = .ok (.aload_n 0, 1) := by decide +kernel
theorem dL_law_1150 : decode cL_law 1150 = .ok (.iload 4, 2) := by decide +kernel
theorem dL_law_1152 : decode cL_law 1152 = .ok (.iconst 3, 1) := by decide +kernel
theorem dL_law_1153 : decode cL_law 1153 = .ok (.iadd, 1) := by decide +kernel
theorem dL_law_1154 : decode cL_law 1154 = .ok (.iaload, 1) := by decide +kernel
theorem dL_law_1155 : decode cL_law 1155 = .ok (.invokevirtual 137, 3) := by decide +kernel
theorem dL_law_1158 : decode cL_law 1158 = .ok (.lstore 6, 2) := by decide +kernel
theorem dL_law_1160 : decode cL_law 1160 = .ok (.aload_n 2, 1) := by decide +kernel
theorem dL_law_1161 : decode cL_law 1161 = .ok (.invokevirtual 84, 3) := by decide +kernel
theorem dL_law_1164 : decode cL_law 1164 = .ok (.iload 5, 2) := by decide +kernel
theorem dL_law_1166 : decode cL_law 1166 = .ok (.if_icmp .eq 5, 3) := by decide +kernel
theorem dL_law_1169 : decode cL_law 1169 = .ok (.iconst 0, 1) := by decide +kernel
theorem dL_law_1170 : decode cL_law 1170 = .ok (.ireturn, 1) := by decide +kernel
theorem dL_law_1171 : decode cL_law 1171 = .ok (.iload 5, 2) := by decide +kernel
theorem dL_law_1173 : decode cL_law 1173 = .ok (.ifCond .ne 14, 3) := by decide +kernel
theorem dL_law_1176 : decode cL_law 1176 = .ok (.aload_n 3, 1) := by decide +kernel
theorem dL_law_1177 : decode cL_law 1177 = .ok (.iconst 0, 1) := by decide +kernel
theorem dL_law_1178 : decode cL_law 1178 = .ok (.laload, 1) := by decide +kernel
theorem dL_law_1179 : decode cL_law 1179 = .ok (.lload 6, 2) := by decide +kernel
theorem dL_law_1181 : decode cL_law 1181 = .ok (.lcmp, 1) := by decide +kernel
theorem dL_law_1182 : decode cL_law 1182 = .ok (.ifCond .eq 5, 3) := by decide +kernel
theorem dL_law_1185 : decode cL_law 1185 = .ok (.iconst 0, 1) := by decide +kernel
theorem dL_law_1186 : decode cL_law 1186 = .ok (.ireturn, 1) := by decide +kernel
theorem dL_law_1187 : decode cL_law 1187 = .ok (.goto 139, 3) := by decide +kernel
theorem dL_law_1190 : decode cL_law 1190 = .ok (.aload_n 1, 1) := by decide +kernel
theorem dL_law_1191 : decode cL_law 1191 = .ok (.aload_n 0, 1) := by decide +kernel
theorem dL_law_1192 : decode cL_law 1192 = .ok (.iload 4, 2) := by decide +kernel
theorem dL_law_1194 : decode cL_law 1194 = .ok (.iconst 1, 1) := by decide +kernel
theorem dL_law_1195 : decode cL_law 1195 = .ok (.iadd, 1) := by decide +kernel
theorem dL_law_1196 : decode cL_law 1196 = .ok (.iaload, 1) := by decide +kernel
theorem dL_law_1197 : decode cL_law 1197 = .ok (.aload_n 0, 1) := by decide +kernel
theorem dL_law_1198 : decode cL_law 1198 = .ok (.iload 4, 2) := by decide +kernel
theorem dL_law_1200 : decode cL_law 1200 = .ok (.iconst 2, 1) := by decide +kernel
theorem dL_law_1201 : decode cL_law 1201 = .ok (.iadd, 1) := by decide +kernel
theorem dL_law_1202 : decode cL_law 1202 = .ok (.iaload, 1) := by decide +kernel
theorem dL_law_1203 : decode cL_law 1203 = .ok (.aload_n 3, 1) := by decide +kernel
theorem dL_law_1204 : decode cL_law 1204 = .ok (.invokestatic 138, 3) := by decide +kernel
theorem dL_law_1207 : decode cL_law 1207 = .ok (.istore 5, 2) := by decide +kernel
theorem dL_law_1209 : decode cL_law 1209 = .ok (.aload_n 2, 1) := by decide +kernel
theorem dL_law_1210 : decode cL_law 1210 = .ok (.aload_n 0, 1) := by decide +kernel
theorem dL_law_1211 : decode cL_law 1211 = .ok (.iload 4, 2) := by decide +kernel
theorem dL_law_1213 : decode cL_law 1213 = .ok (.iconst 1, 1) := by decide +kernel
theorem dL_law_1214 : decode cL_law 1214 = .ok (.iadd, 1) := by decide +kernel
theorem dL_law_1215 : decode cL_law 1215 = .ok (.iaload, 1) := by decide +kernel
theorem dL_law_1216 : decode cL_law 1216 = .ok (.aload_n 0, 1) := by decide +kernel
theorem dL_law_1217 : decode cL_law 1217 = .ok (.iload 4, 2) := by decide +kernel
theorem dL_law_1219 : decode cL_law 1219 = .ok (.iconst 2, 1) := by decide +kernel
theorem dL_law_1220 : decode cL_law 1220 = .ok (.iadd, 1) := by decide +kernel
theorem dL_law_1221 : decode cL_law 1221 = .ok (.iaload, 1) := by decide +kernel
theorem dL_law_1222 : decode cL_law 1222 = .ok (.invokevirtual 140, 3) := by decide +kernel
theorem dL_law_1225 : decode cL_law 1225 = .ok (.lstore 6, 2) := by decide +kernel
theorem dL_law_1227 : decode cL_law 1227 = .ok (.aload_n 2, 1) := by decide +kernel
theorem dL_law_1228 : decode cL_law 1228 = .ok (.invokevirtual 84, 3) := by decide +kernel
theorem dL_law_1231 : decode cL_law 1231 = .ok (.iload 5, 2) := by decide +kernel
theorem dL_law_1233 : decode cL_law 1233 = .ok (.if_icmp .eq 5, 3) := by decide +kernel
theorem dL_law_1236 : decode cL_law 1236 = .ok (.iconst 0, 1) := by decide +kernel
theorem dL_law_1237 : decode cL_law 1237 = .ok (.ireturn, 1) := by decide +kernel
theorem dL_law_1238 : decode cL_law 1238 = .ok (.iload 5, 2) := by decide +kernel
theorem dL_law_1240 : decode cL_law 1240 = .ok (.ifCond .ne 14, 3) := by decide +kernel
theorem dL_law_1243 : decode cL_law 1243 = .ok (.aload_n 3, 1) := by decide +kernel
theorem dL_law_1244 : decode cL_law 1244 = .ok (.iconst 0, 1) := by decide +kernel
theorem dL_law_1245 : decode cL_law 1245 = .ok (.laload, 1) := by decide +kernel
theorem dL_law_1246 : decode cL_law 1246 = .ok (.lload 6, 2) := by decide +kernel
theorem dL_law_1248 : decode cL_law 1248 = .ok (.lcmp, 1) := by decide +kernel
theorem dL_law_1249 : decode cL_law 1249 = .ok (.ifCond .eq 5, 3) := by decide +kernel
theorem dL_law_1252 : decode cL_law 1252 = .ok (.iconst 0, 1) := by decide +kernel
theorem dL_law_1253 : decode cL_law 1253 = .ok (.ireturn, 1) := by decide +kernel
theorem dL_law_1254 : decode cL_law 1254 = .ok (.goto 72, 3) := by decide +kernel
theorem dL_law_1257 : decode cL_law 1257 = .ok (.aload_n 1, 1) := by decide +kernel
theorem dL_law_1258 : decode cL_law 1258 = .ok (.aload_n 0, 1) := by decide +kernel
theorem dL_law_1259 : decode cL_law 1259 = .ok (.iload 4, 2) := by decide +kernel
theorem dL_law_1261 : decode cL_law 1261 = .ok (.iconst 1, 1) := by decide +kernel
theorem dL_law_1262 : decode cL_law 1262 = .ok (.iadd, 1) := by decide +kernel
theorem dL_law_1263 : decode cL_law 1263 = .ok (.iaload, 1) := by decide +kernel
theorem dL_law_1264 : decode cL_law 1264 = .ok (.aload_n 3, 1) := by decide +kernel
theorem dL_law_1265 : decode cL_law 1265 = .ok (.invokestatic 141, 3) := by decide +kernel
theorem dL_law_1268 : decode cL_law 1268 = .ok (.istore 5, 2) := by decide +kernel
theorem dL_law_1270 : decode cL_law 1270 = .ok (.aload_n 2, 1) := by decide +kernel
theorem dL_law_1271 : decode cL_law 1271 = .ok (.aload_n 0, 1) := by decide +kernel
theorem dL_law_1272 : decode cL_law 1272 = .ok (.iload 4, 2) := by decide +kernel
theorem dL_law_1274 : decode cL_law 1274 = .ok (.iconst 1, 1) := by decide +kernel
theorem dL_law_1275 : decode cL_law 1275 = .ok (.iadd, 1) := by decide +kernel
theorem dL_law_1276 : decode cL_law 1276 = .ok (.iaload, 1) := by decide +kernel
theorem dL_law_1277 : decode cL_law 1277 = .ok (.invokevirtual 143, 3) := by decide +kernel
theorem dL_law_1280 : decode cL_law 1280 = .ok (.istore 6, 2) := by decide +kernel
theorem dL_law_1282 : decode cL_law 1282 = .ok (.aload_n 2, 1) := by decide +kernel
theorem dL_law_1283 : decode cL_law 1283 = .ok (.invokevirtual 84, 3) := by decide +kernel
theorem dL_law_1286 : decode cL_law 1286 = .ok (.iload 5, 2) := by decide +kernel
theorem dL_law_1288 : decode cL_law 1288 = .ok (.if_icmp .eq 5, 3) := by decide +kernel
theorem dL_law_1291 : decode cL_law 1291 = .ok (.iconst 0, 1) := by decide +kernel
theorem dL_law_1292 : decode cL_law 1292 = .ok (.ireturn, 1) := by decide +kernel
theorem dL_law_1293 : decode cL_law 1293 = .ok (.iload 5, 2) := by decide +kernel
theorem dL_law_1295 : decode cL_law 1295 = .ok (.ifCond .ne 15, 3) := by decide +kernel
theorem dL_law_1298 : decode cL_law 1298 = .ok (.aload_n 3, 1) := by decide +kernel
theorem dL_law_1299 : decode cL_law 1299 = .ok (.iconst 0, 1) := by decide +kernel
theorem dL_law_1300 : decode cL_law 1300 = .ok (.laload, 1) := by decide +kernel
theorem dL_law_1301 : decode cL_law 1301 = .ok (.iload 6, 2) := by decide +kernel
theorem dL_law_1303 : decode cL_law 1303 = .ok (.i2l, 1) := by decide +kernel
theorem dL_law_1304 : decode cL_law 1304 = .ok (.lcmp, 1) := by decide +kernel
theorem dL_law_1305 : decode cL_law 1305 = .ok (.ifCond .eq 5, 3) := by decide +kernel
theorem dL_law_1308 : decode cL_law 1308 = .ok (.iconst 0, 1) := by decide +kernel
theorem dL_law_1309 : decode cL_law 1309 = .ok (.ireturn, 1) := by decide +kernel
theorem dL_law_1310 : decode cL_law 1310 = .ok (.goto 16, 3) := by decide +kernel
theorem dL_law_1313 : decode cL_law 1313 = .ok (.aload_n 1, 1) := by decide +kernel
theorem dL_law_1314 : decode cL_law 1314 = .ok (.invokevirtual 144, 3) := by decide +kernel
theorem dL_law_1317 : decode cL_law 1317 = .ok (.aload_n 2, 1) := by decide +kernel
theorem dL_law_1318 : decode cL_law 1318 = .ok (.invokevirtual 147, 3) := by decide +kernel
theorem dL_law_1321 : decode cL_law 1321 = .ok (.if_icmp .eq 5, 3) := by decide +kernel
theorem dL_law_1324 : decode cL_law 1324 = .ok (.iconst 0, 1) := by decide +kernel
theorem dL_law_1325 : decode cL_law 1325 = .ok (.ireturn, 1) := by decide +kernel
theorem dL_law_1326 : decode cL_law 1326 = .ok (.iinc 4 7, 3) := by decide +kernel
theorem dL_law_1329 : decode cL_law 1329 = .ok (.goto (-1306), 3) := by decide +kernel
theorem dL_law_1332 : decode cL_law 1332 = .ok (.iconst 1, 1) := by decide +kernel
theorem dL_law_1333 : decode cL_law 1333 = .ok (.ireturn, 1) := by decide +kernel
end
section
/-! THE HEAP AS A MAP: what is known of the cells at and above G.2.2 -/
abbrev Gx : Type := va_G × (Nat → ClassId) × Nat
abbrev Mp : Type := Nat → Option va_E
def tyG (G : Gx) : List (ClassId × FieldType) := [(G.2.1 0, .int), (G.2.1 1, .long), (G.2.1 2, .boolean), (G.2.1 3, .object RX2), (G.2.1 4, .object RX3), (G.2.1 5, .object RX0), (G.2.1 6, .object RX4)]
def AG (G : Gx) : Nat → Prop := fun q => G.2.2 ≤ q
def Hm (G : Gx) (M : Mp) (H : Heap) : Prop := ∃ ws : va_W, va_P G.1 vwCl ws H ∧ va_D (AG G) ws ∧ ∀ a e, M a = some e → ∃ k : Nat, ws[k]? = some (a, e)
theorem Hm.lt {G : Gx} {M : Mp} {H : Heap} (h : Hm G M H) {a : Nat} {e : va_E} (ha : M a = some e) : a < H.size := by
  obtain ⟨ws, hP, hD, hk⟩ := h
  obtain ⟨k, he⟩ := hk a e ha
  exact (hP k _ he).lt
theorem Hm.ge {G : Gx} {M : Mp} {H : Heap} (h : Hm G M H) {a : Nat} {e : va_E} (ha : M a = some e) : G.2.2 ≤ a := by
  obtain ⟨ws, hP, hD, hk⟩ := h
  obtain ⟨k, he⟩ := hk a e ha
  exact hD.2 k _ he
theorem Hm.mono {G : Gx} {M M' : Mp} {H : Heap} (h : Hm G M H) (hm : ∀ a e, M' a = some e → M a = some e) : Hm G M' H := by
  obtain ⟨ws, hP, hD, hk⟩ := h
  exact ⟨ws, hP, hD, fun a e ha => hk a e (hm a e ha)⟩
theorem Hm.kept {G : Gx} {M : Mp} {H H1 : Heap} (h : Hm G M H) (hq : ∀ q : Nat, q < H.size → H1[q]? = H[q]?) : Hm G M H1 := by
  obtain ⟨ws, hP, hD, hk⟩ := h
  exact ⟨ws, hP.kept (fun k q hkq => hq _ (hP k q hkq).lt), hD, hk⟩
theorem Hm.nil {G : Gx} {H : Heap} : Hm G (fun _ => none) H := ⟨[], fun k q h => by simp at h, ⟨fun i j p q h => by simp at h, fun k q h => by simp at h⟩, fun a e h => by cases h⟩
theorem Hm.set {G : Gx} {M : Mp} {H1 : Heap} {ws : va_W} {k : Nat} {a : Nat} {e0 e1 : va_E} (hD : va_D (AG G) ws) (hk : ∀ a e, M a = some e → ∃ k : Nat, ws[k]? = some (a, e)) (he : ws[k]? = some (a, e0)) (hP1 : va_P G.1 vwCl (ws.set k (a, e1)) H1) (hD1 : va_D (AG G) (ws.set k (a, e1))) : Hm G (va_up M a (some e1)) H1 := by
  refine ⟨_, hP1, hD1, fun b f hf => ?_⟩
  have hl := (List.getElem?_eq_some_iff.mp he).1
  by_cases hb : b = a
  · subst hb
    have : f = e1 := by simp [va_up] at hf; exact hf.symm
    subst this
    exact ⟨k, List.getElem?_set_self hl⟩
  · have hf' : M b = some f := by simpa [va_up, hb] using hf
    obtain ⟨k2, hk2⟩ := hk b f hf'
    refine ⟨k2, ?_⟩
    rw [List.getElem?_set_ne]
    · exact hk2
    · intro h
      subst h
      rw [he] at hk2
      cases hk2
      exact hb rfl
theorem Hm.push {G : Gx} {M : Mp} {H1 : Heap} {ws : va_W} {q : Nat} {e1 : va_E} (hk : ∀ a e, M a = some e → ∃ k : Nat, ws[k]? = some (a, e)) (hP1 : va_P G.1 vwCl (ws ++ [(q, e1)]) H1) (hD1 : va_D (AG G) (ws ++ [(q, e1)])) : M q = none ∧ Hm G (va_up M q (some e1)) H1 := by
  have hz : (ws ++ [(q, e1)])[ws.length]? = some (q, e1) := by simp
  have hn : M q = none := by
    cases h : M q with
    | none => rfl
    | some f =>
      obtain ⟨k, hk2⟩ := hk q f h
      have hl := (List.getElem?_eq_some_iff.mp hk2).1
      have h2 : (ws ++ [(q, e1)])[k]? = some (q, f) := by rw [List.getElem?_append_left hl]; exact hk2
      have := hD1.1 k ws.length _ _ h2 hz rfl
      omega
  refine ⟨hn, _, hP1, hD1, fun b f hf => ?_⟩
  by_cases hb : b = q
  · subst hb
    have : f = e1 := by simp [va_up] at hf; exact hf.symm
    subst this
    exact ⟨_, hz⟩
  · have hf' : M b = some f := by simpa [va_up, hb] using hf
    obtain ⟨k2, hk2⟩ := hk b f hf'
    refine ⟨k2, ?_⟩
    rw [List.getElem?_append_left (List.getElem?_eq_some_iff.mp hk2).1]
    exact hk2
theorem up_eq {M : Mp} {a : Nat} {x : Option va_E} : va_up M a x a = x := by simp [va_up]
theorem up_ne {M : Mp} {a b : Nat} {x : Option va_E} (h : b ≠ a) : va_up M a x b = M b := by simp [va_up, h]
/-! what every method is given -/
def XW : List Cond := [
  .fieldLinkNest RX5 54 RX1 "today" "I" RX5, .fieldLinkNest RX5 125 RX2 "number" "I" RX5, .fieldLinkNest RX5 47 RX2 "spotRate" "I" RX5, .fieldLinkNest RX5 51 RX2 "points" "I" RX5,
  .fieldLinkNest RX5 73 RX3 "limit" "I" RX5, .fieldLinkNest RX5 183 RX3 "balances" "LForwardroll$Amounts;" RX5, .fieldLinkNest RX5 117 RX4 "customer" "LForwardroll$Customer;" RX5, .fieldLinkNest RX5 121 RX4 "currency" "LForwardroll$Currency;" RX5,
  .fieldLinkNest RX5 128 RX4 "buys" "Z" RX5, .fieldLinkNest RX5 103 RX4 "amountLeft" "I" RX5, .fieldLinkNest RX5 155 RX4 "agreedRate" "I" RX5, .fieldLinkNest RX5 165 RX4 "firstDay" "I" RX5, .fieldLinkNest RX5 140 RX4 "lastDay" "I" RX5,
  .methodLinkNest RX5 11 yX1_init RX5, .methodLinkNest RX5 31 yX3_init RX5, .methodLinkNest RX3 22 yX0_init RX5, .methodLinkNest RX1 15 yX5_isIndex RX5, .methodLinkNest RX4 58 yX5_homeAmount RX5, .methodLinkNest RX3 27 yX5_isIndex RX5, .methodLinkNest RX0 15 yX5_isIndex RX5]
def XC : List Cond := [.castable "java/lang/IndexOutOfBoundsException" "java/lang/IndexOutOfBoundsException", .castable "java/lang/IllegalArgumentException" "java/lang/IllegalArgumentException", .castable "java/lang/IllegalStateException" "java/lang/IllegalStateException",
  .declares (Bundle.initS Bundle.tN), .declares (Bundle.initS "java/lang/Exception"), .declares (Bundle.initS "java/lang/RuntimeException")]
def XS : List (Nat × String) := [(202, "no such currency"), (211, "an argument is out of range"), (59, "the day is not later than today"), (205, "no such customer"), (88, "there have been as many deals as there can be"), (97, "the exposure would be greater than the limit"), (207, "no such deal"), (214, "nothing is left of the deal"), (143, "the last day would be too late"), (192, "today would be too late")]
def XN : List (String × String) := [("java/lang/IllegalArgumentException", "java/lang/IndexOutOfBoundsException"), ("java/lang/IllegalStateException", "java/lang/IndexOutOfBoundsException"), ("java/lang/IllegalStateException", "java/lang/IllegalArgumentException")]
def Cx (G : Gx) (U : State) : Prop := G.2.2 ≤ U.heap.size ∧ va_K G.1 vwCl (tyG G) U ∧ (∀ w ∈ XW, va_Nw w U) ∧ (∀ w ∈ XC, va_Nw w U) ∧ (∀ q ∈ XS, ∃ sa, vk_R RX5 q.1 q.2 sa U) ∧ (∀ q ∈ XN, va_Nc q.1 q.2 U) ∧ (∀ C ∈ [RX0, RX2, RX3, RX4], va_AO C U) ∧
  vx_Zq Bundle.tN "UNASSIGNED_STACK" Bundle.steD (AG G) U U.heap ∧ vx_Zq Bundle.tN "SUPPRESSED_SENTINEL" Bundle.listD (AG G) U U.heap
theorem warm_any {w : Cond} (h1 : w.onTables = true) (h2 : w.warmB w.codeNames = true) {s U : State} (hW : s.WarmedH U.vm) (h : va_Nw w s) : va_Nw w U := va_tabs h1 (rfl : (s.setVm U.vm).vm = U.vm) (Cond.pre_warmed hW h2 h)
theorem Cx.at {G : Gx} {s U : State} {H : Heap} {locs : List Loc} (h : Cx G s) (hS : va_S (AG G) s.heap H locs) (hU : U.heap = H) (hW : s.WarmedH U.vm) : Cx G U := by
  obtain ⟨h0, hK, h1, h2, h3, h4, h5, h6, h7⟩ := h
  refine ⟨by rw [hU]; exact Nat.le_trans h0 hS.1, hK.moved hW.alike, fun w hw => ?_, fun w hw => ?_, fun q hq => ?_, fun q hq => (h4 q hq).moved hW.alike, fun C hC => (h5 C hC).moved hW.alike, ?_, ?_⟩
  · have hh := h1 w hw
    simp only [XW, List.mem_cons, List.not_mem_nil, or_false] at hw
    rcases hw with rfl | rfl | rfl | rfl | rfl | rfl | rfl | rfl | rfl | rfl | rfl | rfl | rfl | rfl | rfl | rfl | rfl | rfl | rfl | rfl <;> first | exact va_Nw.warmF hW hh | exact va_Nw.warmM hW hh
  · have hh := h2 w hw
    refine warm_any ?_ ?_ hW hh
    · exact List.all_eq_true.mp (by decide +kernel : XC.all (fun w => w.onTables) = true) w hw
    · exact List.all_eq_true.mp (by decide +kernel : XC.all (fun w => w.warmB w.codeNames) = true) w hw
  · obtain ⟨sa, h⟩ := h3 q hq
    exact ⟨sa, h.warm hW⟩
  · rw [hU]; exact (h6.kept hS.2.1).moved hW.alike
  · rw [hU]; exact (h7.kept hS.2.1).moved hW.alike
theorem Cx.k {G : Gx} {s : State} (h : Cx G s) : va_K G.1 vwCl (tyG G) s := h.2.1
theorem Cx.w {G : Gx} {s : State} (h : Cx G s) {w : Cond} (i : Nat) (hw : XW[i]? = some w) : va_Nw w s := h.2.2.1 w (List.mem_of_getElem? hw)
def Pre (G : Gx) (M : Mp) : State → Prop := fun U => Cx G U ∧ Hm G M U.heap
def Cv (G : Gx) (M : Mp) (avs : List Value) : Array Value → State → Prop := va_Pc avs (Pre G M)
theorem pre_blind {G : Gx} {M : Mp} {avs : List Value} : FrameBlind (Cv G M avs) := fun _ U _ _ q => ⟨q.1, Cx.at (H := U.heap) q.2.1 va_S.rf rfl (State.WarmedH.refl U), q.2.2⟩
theorem preS_of {G : Gx} {M : Mp} {avs : List Value} {s : State} {H : Heap} {locs : List Loc} (hC : Cx G s) (hS : va_S (AG G) s.heap H locs) (hM : Hm G M H) : PreS s H (Cv G M avs) avs := ⟨pre_blind, fun U hU hW => ⟨rfl, hC.at hS hU hW, by rw [hU]; exact hM⟩⟩
theorem preV_of {G : Gx} {M : Mp} {b : Nat} {As : List Value} {s : State} {H : Heap} {locs : List Loc} {ci : Nat} {fs : List Value} {C : String} {T : u_T} {N : Nat} (hC : Cx G s) (hS : va_S (AG G) s.heap H locs) (hM : Hm G M H) (hb : M b = some (.inr (ci, fs))) (hcl : vwCl[ci]? = some (C, T, N)) : PreV s H C b (Cv G M (.ref b :: As)) As := by
  refine ⟨pre_blind, ?_, fun U hU hW => ⟨rfl, hC.at hS hU hW, by rw [hU]; exact hM⟩⟩
  obtain ⟨ws, hP, hD, hk⟩ := hM
  obtain ⟨k, he⟩ := hk _ _ hb
  exact va_recv hC.k hP hcl he
/-! a body from its start -/
theorem m_met {l : Launch} {y : MethodName} {ws ws' : List Cond} {rm : Room} {Qc : Array Value → State → Outcome → State → Prop} {mc ms : Nat} {free : Addr → Prop} {cc : ByteArray} {maxL : Nat} {ret : Option FieldType} {G : Gx} {M : Mp} (avs : List Value) (lv : List (Nat × Value))
    (hy : plainName y.cls = true) (hw : ws = Cond.code y cc maxL ret :: ws') (hlv : lv_args 0 avs = lv) (hlen : (lg_sl avs).length ≤ maxL)
    (body : ∀ (p : Program) (e : Env) (s : State) (m : MethodId) (below : List Frame) (meth : Method) (c : Code) (ls : Array Slot), p.tables.exec = Jvm.exec → c.code = cc → meth.sig.returnType = ret → c.maxLocals = maxL → s.vm.findClass y.cls = some m.cls → (∀ w ∈ ws, w.before avs.toArray s = true) → meth.locks = false → meth.name = y.name → Cx G s → Hm G M s.heap → lv_has ls maxL lv →
      va_S (AG G) s.heap s.heap [] → W p l e rm s m avs.toArray below meth c s.heap [] 0 0 (MQ below Qc avs.toArray s mc ms free) (F0 m 0 ls [])) : Met l y ws rm (Cv G M avs) Qc mc ms free := by
  refine Met.ofW (cc := cc) (maxL := maxL) (ret := ret) hy hw ?_
  intro p e s m args below meth c s₁ B hml hv
  obtain ⟨rfl, hC, hM⟩ := hv
  rw [lg_entry_eq]
  have hl := lv_entry avs (n := maxL) hlen
  rw [hlv] at hl
  exact body p e s m below meth c _ B.exec B.bytes B.returns hml (findClass_of_methodNamed B.named) (atoms_spec (ws := ws) B.pre) B.notSynchronized (name_of_methodNamed B.named B.method).1 hC hM hl va_S.rf
theorem m_metx {l : Launch} {y : MethodName} {ws ws' : List Cond} {rm : Room} {Qc : Array Value → State → Outcome → State → Prop} {XCt : String → State → State → Prop} {mc ms : Nat} {free : Addr → Prop} {cc : ByteArray} {maxL : Nat} {ret : Option FieldType} {G : Gx} {M : Mp} (avs : List Value) (lv : List (Nat × Value))
    (hy : plainName y.cls = true) (hw : ws = Cond.code y cc maxL ret :: ws') (hlv : lv_args 0 avs = lv) (hlen : (lg_sl avs).length ≤ maxL)
    (body : ∀ (p : Program) (e : Env) (s : State) (m : MethodId) (below : List Frame) (meth : Method) (c : Code) (ls : Array Slot), p.tables.exec = Jvm.exec → c.code = cc → meth.sig.returnType = ret → c.maxLocals = maxL → s.vm.findClass y.cls = some m.cls → (∀ w ∈ ws, w.before avs.toArray s = true) → meth.locks = false → meth.name = y.name → (∀ x ∈ c.exceptionTable.toList, False) → Cx G s → Hm G M s.heap → lv_has ls maxL lv →
      va_S (AG G) s.heap s.heap [] → W p l e rm s m avs.toArray below meth c s.heap [] 0 0 (vx_MQ below Qc XCt avs.toArray s mc ms free) (F0 m 0 ls [])) : vx_Met l y ws rm (Cv G M avs) Qc XCt mc ms free := by
  refine vx_ofW (cc := cc) (maxL := maxL) (ret := ret) hy hw ?_
  intro p e s m args below meth c s₁ B hml ht hv
  obtain ⟨rfl, hC, hM⟩ := hv
  rw [lg_entry_eq]
  have hl := lv_entry avs (n := maxL) hlen
  rw [hlv] at hl
  exact body p e s m below meth c _ B.exec B.bytes B.returns hml (findClass_of_methodNamed B.named) (atoms_spec (ws := ws) B.pre) B.notSynchronized (name_of_methodNamed B.named B.method).1 ht hC hM hl va_S.rf
section MK
variable {p : Program} {l : Launch} {e : Env} {R : Room} {s : State} {m : MethodId} {args : Array Value} {below : List Frame} {meth : Method} {c : Code} {H : Heap} {locs : List Loc} {cells slots : Nat} {Q : State → Prop}
variable {cc : ByteArray} {pc : Nat} {ls : Array Slot} {rest : List Value} {G : Gx} {M : Mp} {H0 : Heap} {a : Nat}

theorem m_get (hexec : p.tables.exec = Jvm.exec) (hb : c.code = cc) {own ref C : String} {T : u_T} {N ci index : Nat} {Ts : List Cond} (hts : ∀ w ∈ Ts, w.before args s = true) (hin : ∀ w ∈ u_ws C T N, w ∈ Ts) (hown : s.vm.findClass own = some m.cls) (hC : Cx G s) (hM : Hm G M H) {fs : List Value} (he : M a = some (.inr (ci, fs))) (hc : vwCl[ci]? = some (C, T, N)) (k : Nat) (hk : k < N) (hlink : (Cond.fieldLink own index ref (T k).2.1 (T k).2.2.1).before args s = true) (hsame : ∀ x, s.fieldFound? (T k).1 (T k).2.1 (T k).2.2.1 = some x → s.fieldFound? ref (T k).2.1 (T k).2.2.1 = some x) {v : Value} (hv : fs[k]? = some v) (hdg : decode cc pc = .ok (.getfield index, 3))
    (kk : W p l e R s m args below meth c H locs cells slots Q (F0 m (pc + 3) ls (v :: rest))) : W p l e R s m args below meth c H locs cells slots Q (F0 m pc ls (.ref a :: rest)) := by
  obtain ⟨ws, hP, hD, hq⟩ := hM
  obtain ⟨q, hq⟩ := hq _ _ he
  exact va_get hexec hb hts hin hown hC.k hP q hq hc k hk hlink hsame hv hdg kk
theorem m_getN (hexec : p.tables.exec = Jvm.exec) (hb : c.code = cc) {own ref C host : String} {T : u_T} {N ci index : Nat} {Ts : List Cond} (hts : ∀ w ∈ Ts, w.before args s = true) (hin : ∀ w ∈ u_ws C T N, w ∈ Ts) (hown : s.vm.findClass own = some m.cls) (hC : Cx G s) (hM : Hm G M H) {fs : List Value} (he : M a = some (.inr (ci, fs))) (hc : vwCl[ci]? = some (C, T, N)) (k : Nat) (hk : k < N) (hlink : va_Nw (.fieldLinkNest own index ref (T k).2.1 (T k).2.2.1 host) s) (hsame : ∀ x, s.fieldFound? (T k).1 (T k).2.1 (T k).2.2.1 = some x → s.fieldFound? ref (T k).2.1 (T k).2.2.1 = some x) {v : Value} (hv : fs[k]? = some v) (hdg : decode cc pc = .ok (.getfield index, 3))
    (kk : W p l e R s m args below meth c H locs cells slots Q (F0 m (pc + 3) ls (v :: rest))) : W p l e R s m args below meth c H locs cells slots Q (F0 m pc ls (.ref a :: rest)) := by
  obtain ⟨ws, hP, hD, hq⟩ := hM
  obtain ⟨q, hq⟩ := hq _ _ he
  exact va_getN hexec hb hts hin hown hC.k hP q hq hc k hk (va_Nw.use rfl hlink) hsame hv hdg kk
theorem m_put (hexec : p.tables.exec = Jvm.exec) (hb : c.code = cc) {own ref C host : String} {T : u_T} {N ci index : Nat} {Ts : List Cond} (hts : ∀ w ∈ Ts, w.before args s = true) (hin : ∀ w ∈ u_ws C T N, w ∈ Ts) (ty0 : Nat → FieldType) (hty : ∀ k, k < N → parseFieldDescriptor (T k).2.2.1 = some (ty0 k)) (hnm : ∀ a, a < N → ∀ b, b < N → a ≠ b → (T a).2.1 ≠ (T b).2.1) (hown : s.vm.findClass own = some m.cls) (hC : Cx G s) (hM : Hm G M H) (hS0 : va_S (AG G) H0 H locs) {fs : List Value} (he : M a = some (.inr (ci, fs))) (hc : vwCl[ci]? = some (C, T, N)) (k : Nat) (hk : k < N) (hlink : (Cond.fieldLink own index ref (T k).2.1 (T k).2.2.1).before args s = true) (hsame : ∀ x, s.fieldFound? (T k).1 (T k).2.1 (T k).2.2.1 = some x → s.fieldFound? ref (T k).2.1 (T k).2.2.1 = some x) (hfin : (T k).2.2.2 = false) {ty : FieldType} {v : Value} (hd : parseFieldDescriptor (T k).2.2.1 = some ty) (hn : narrow ty v = v) (hfit : fits ty v = true) (hl : k < fs.length)
    (hdg : decode cc pc = .ok (.putfield index, 3)) (kk : ∀ (H1 : Heap) (locs1 : List Loc), Hm G (va_up M a (some (.inr (ci, fs.set k v)))) H1 → va_S (AG G) H0 H1 locs1 → W p l e R s m args below meth c H1 locs1 cells slots Q (F0 m (pc + 3) ls rest)) : W p l e R s m args below meth c H locs cells slots Q (F0 m pc ls (v :: .ref a :: rest)) := by
  obtain ⟨ws, hP, hD, hk9⟩ := hM
  obtain ⟨q, hq⟩ := hk9 _ _ he
  exact va_put hexec hb hts hin ty0 hty hnm hown hC.k hP hD hS0 q hq hc k hk hlink hsame hfin hd hn hfit hl hdg (fun H1 locs1 hP1 hD1 hS1 => kk H1 locs1 (Hm.set hD hk9 hq hP1 hD1) hS1)
theorem m_putN (hexec : p.tables.exec = Jvm.exec) (hb : c.code = cc) {own ref C host : String} {T : u_T} {N ci index : Nat} {Ts : List Cond} (hts : ∀ w ∈ Ts, w.before args s = true) (hin : ∀ w ∈ u_ws C T N, w ∈ Ts) (ty0 : Nat → FieldType) (hty : ∀ k, k < N → parseFieldDescriptor (T k).2.2.1 = some (ty0 k)) (hnm : ∀ a, a < N → ∀ b, b < N → a ≠ b → (T a).2.1 ≠ (T b).2.1) (hown : s.vm.findClass own = some m.cls) (hC : Cx G s) (hM : Hm G M H) (hS0 : va_S (AG G) H0 H locs) {fs : List Value} (he : M a = some (.inr (ci, fs))) (hc : vwCl[ci]? = some (C, T, N)) (k : Nat) (hk : k < N) (hlink : va_Nw (.fieldLinkNest own index ref (T k).2.1 (T k).2.2.1 host) s) (hsame : ∀ x, s.fieldFound? (T k).1 (T k).2.1 (T k).2.2.1 = some x → s.fieldFound? ref (T k).2.1 (T k).2.2.1 = some x) (hfin : (T k).2.2.2 = false) {ty : FieldType} {v : Value} (hd : parseFieldDescriptor (T k).2.2.1 = some ty) (hn : narrow ty v = v) (hfit : fits ty v = true) (hl : k < fs.length)
    (hdg : decode cc pc = .ok (.putfield index, 3)) (kk : ∀ (H1 : Heap) (locs1 : List Loc), Hm G (va_up M a (some (.inr (ci, fs.set k v)))) H1 → va_S (AG G) H0 H1 locs1 → W p l e R s m args below meth c H1 locs1 cells slots Q (F0 m (pc + 3) ls rest)) : W p l e R s m args below meth c H locs cells slots Q (F0 m pc ls (v :: .ref a :: rest)) := by
  obtain ⟨ws, hP, hD, hk9⟩ := hM
  obtain ⟨q, hq⟩ := hk9 _ _ he
  exact va_putN hexec hb hts hin ty0 hty hnm hown hC.k hP hD hS0 q hq hc k hk (va_Nw.use rfl hlink) hsame hfin hd hn hfit hl hdg (fun H1 locs1 hP1 hD1 hS1 => kk H1 locs1 (Hm.set hD hk9 hq hP1 hD1) hS1)
theorem m_putF (hexec : p.tables.exec = Jvm.exec) (hb : c.code = cc) {own ref C host : String} {T : u_T} {N ci index : Nat} {Ts : List Cond} (hts : ∀ w ∈ Ts, w.before args s = true) (hin : ∀ w ∈ u_ws C T N, w ∈ Ts) (ty0 : Nat → FieldType) (hty : ∀ k, k < N → parseFieldDescriptor (T k).2.2.1 = some (ty0 k)) (hnm : ∀ a, a < N → ∀ b, b < N → a ≠ b → (T a).2.1 ≠ (T b).2.1) (hown : s.vm.findClass own = some m.cls) (hC : Cx G s) (hM : Hm G M H) (hS0 : va_S (AG G) H0 H locs) {fs : List Value} (he : M a = some (.inr (ci, fs))) (hc : vwCl[ci]? = some (C, T, N)) (k : Nat) (hk : k < N) (hlink : (Cond.fieldLink own index ref (T k).2.1 (T k).2.2.1).before args s = true) (hsame : ∀ x, s.fieldFound? (T k).1 (T k).2.1 (T k).2.2.1 = some x → s.fieldFound? ref (T k).2.1 (T k).2.2.1 = some x) (hfin : (T k).2.2.2 = true) (hin2 : meth.name = "<init>") (hdecl : (T k).1 = own) {ty : FieldType} {v : Value} (hd : parseFieldDescriptor (T k).2.2.1 = some ty) (hn : narrow ty v = v) (hfit : fits ty v = true) (hl : k < fs.length)
    (hdg : decode cc pc = .ok (.putfield index, 3)) (kk : ∀ (H1 : Heap) (locs1 : List Loc), Hm G (va_up M a (some (.inr (ci, fs.set k v)))) H1 → va_S (AG G) H0 H1 locs1 → W p l e R s m args below meth c H1 locs1 cells slots Q (F0 m (pc + 3) ls rest)) : W p l e R s m args below meth c H locs cells slots Q (F0 m pc ls (v :: .ref a :: rest)) := by
  obtain ⟨ws, hP, hD, hk9⟩ := hM
  obtain ⟨q, hq⟩ := hk9 _ _ he
  exact va_putF hexec hb hts hin ty0 hty hnm hown hC.k hP hD hS0 q hq hc k hk hlink hsame hfin hin2 hdecl hd hn hfit hl hdg (fun H1 locs1 hP1 hD1 hS1 => kk H1 locs1 (Hm.set hD hk9 hq hP1 hD1) hS1)
theorem m_iald (hexec : p.tables.exec = Jvm.exec) (hb : c.code = cc) (hC : Cx G s) (hM : Hm G M H) {n : Nat} {f : Nat → Int32} (ha : M a = some (.inl (G.2.1 0, n, .inl f))) {i : Int32} (hin : vp_in i n) (hdg : decode cc pc = .ok (.iaload, 1))
    (kk : W p l e R s m args below meth c H locs cells slots Q (F0 m (pc + 1) ls (.int (f i.toNatClampNeg) :: rest))) : W p l e R s m args below meth c H locs cells slots Q (F0 m pc ls (.int i :: .ref a :: rest)) := by
  obtain ⟨ws, hP, hD, hq⟩ := hM
  obtain ⟨q, hq⟩ := hq _ _ ha
  exact va_iald hexec hb hC.k hP q 0 hq rfl hin hdg kk
theorem m_zald (hexec : p.tables.exec = Jvm.exec) (hb : c.code = cc) (hC : Cx G s) (hM : Hm G M H) {n : Nat} {f : Nat → Int32} (ha : M a = some (.inl (G.2.1 2, n, .inl f))) {i : Int32} (hin : vp_in i n) (hdg : decode cc pc = .ok (.baload, 1))
    (kk : W p l e R s m args below meth c H locs cells slots Q (F0 m (pc + 1) ls (.int (f i.toNatClampNeg) :: rest))) : W p l e R s m args below meth c H locs cells slots Q (F0 m pc ls (.int i :: .ref a :: rest)) := by
  obtain ⟨ws, hP, hD, hq⟩ := hM
  obtain ⟨q, hq⟩ := hq _ _ ha
  exact va_zald hexec hb hC.k hP q 2 hq rfl hin hdg kk
theorem m_lald (hexec : p.tables.exec = Jvm.exec) (hb : c.code = cc) (hC : Cx G s) (hM : Hm G M H) {n : Nat} {f : Nat → Int64} (ha : M a = some (.inl (G.2.1 1, n, .inr (.inl f)))) {i : Int32} (hin : vp_in i n) (hdg : decode cc pc = .ok (.laload, 1))
    (kk : W p l e R s m args below meth c H locs cells slots Q (F0 m (pc + 1) ls (.long (f i.toNatClampNeg) :: rest))) : W p l e R s m args below meth c H locs cells slots Q (F0 m pc ls (.int i :: .ref a :: rest)) := by
  obtain ⟨ws, hP, hD, hq⟩ := hM
  obtain ⟨q, hq⟩ := hq _ _ ha
  exact va_lald hexec hb hC.k hP q 1 hq rfl hin hdg kk
theorem m_aldq (hexec : p.tables.exec = Jvm.exec) (hb : c.code = cc) (hC : Cx G s) (hM : Hm G M H) {n : Nat} {f : Nat → Option Nat} (t0 : Nat) {C : String} (ht : (tyG G)[t0]? = some (G.2.1 t0, .object C)) (ha : M a = some (.inl (G.2.1 t0, n, .inr (.inr (.inr (.inr f)))))) {i : Int32} (hin : vp_in i n) (hdg : decode cc pc = .ok (.aaload, 1))
    (kk : W p l e R s m args below meth c H locs cells slots Q (F0 m (pc + 1) ls (va_rf (f i.toNatClampNeg) :: rest))) : W p l e R s m args below meth c H locs cells slots Q (F0 m pc ls (.int i :: .ref a :: rest)) := by
  obtain ⟨ws, hP, hD, hq⟩ := hM
  obtain ⟨q, hq⟩ := hq _ _ ha
  exact va_aldq hexec hb hC.k hP q t0 hq ht hin hdg kk
theorem m_alen (hexec : p.tables.exec = Jvm.exec) (hb : c.code = cc) (hC : Cx G s) (hM : Hm G M H) {x : vp_A} (t0 : Nat) {ty : FieldType} (ht : (tyG G)[t0]? = some (G.2.1 t0, ty)) (ha : M a = some (.inl (G.2.1 t0, x))) {v : Int32} (hv : Int32.ofNat x.1 = v) (hdg : decode cc pc = .ok (.arraylength, 1))
    (kk : W p l e R s m args below meth c H locs cells slots Q (F0 m (pc + 1) ls (.int v :: rest))) : W p l e R s m args below meth c H locs cells slots Q (F0 m pc ls (.ref a :: rest)) := by
  obtain ⟨ws, hP, hD, hq⟩ := hM
  obtain ⟨q, hq⟩ := hq _ _ ha
  exact va_alen hexec hb hC.k hP q t0 hq ht hv hdg kk
theorem m_iast (hexec : p.tables.exec = Jvm.exec) (hb : c.code = cc) (hC : Cx G s) (hM : Hm G M H) (hS : va_S (AG G) H0 H locs) {n : Nat} {f : Nat → Int32} (ha : M a = some (.inl (G.2.1 0, n, .inl f))) {i : Int32} {x : Int32} (hin : vp_in i n) (hdg : decode cc pc = .ok (.iastore, 1))
    (kk : ∀ (H1 : Heap) (locs1 : List Loc), Hm G (va_up M a (some (.inl (G.2.1 0, n, .inl (upd f i.toNatClampNeg x))))) H1 → va_S (AG G) H0 H1 locs1 → W p l e R s m args below meth c H1 locs1 cells slots Q (F0 m (pc + 1) ls rest)) : W p l e R s m args below meth c H locs cells slots Q (F0 m pc ls (.int x :: .int i :: .ref a :: rest)) := by
  obtain ⟨ws, hP, hD, hk9⟩ := hM
  obtain ⟨q, hq⟩ := hk9 _ _ ha
  exact va_iast hexec hb hC.k hP hD hS q 0 hq rfl hin hdg (fun H1 locs1 hP1 hD1 hS1 => kk H1 locs1 (Hm.set hD hk9 hq hP1 hD1) hS1)
theorem m_zast (hexec : p.tables.exec = Jvm.exec) (hb : c.code = cc) (hC : Cx G s) (hM : Hm G M H) (hS : va_S (AG G) H0 H locs) {n : Nat} {f : Nat → Int32} (ha : M a = some (.inl (G.2.1 2, n, .inl f))) {i : Int32} {x : Int32} (hin : vp_in i n) (hdg : decode cc pc = .ok (.bastore, 1))
    (kk : ∀ (H1 : Heap) (locs1 : List Loc), Hm G (va_up M a (some (.inl (G.2.1 2, n, .inl (upd f i.toNatClampNeg (vp_nar .boolean x)))))) H1 → va_S (AG G) H0 H1 locs1 → W p l e R s m args below meth c H1 locs1 cells slots Q (F0 m (pc + 1) ls rest)) : W p l e R s m args below meth c H locs cells slots Q (F0 m pc ls (.int x :: .int i :: .ref a :: rest)) := by
  obtain ⟨ws, hP, hD, hk9⟩ := hM
  obtain ⟨q, hq⟩ := hk9 _ _ ha
  exact va_zast hexec hb hC.k hP hD hS q 2 hq rfl hin hdg (fun H1 locs1 hP1 hD1 hS1 => kk H1 locs1 (Hm.set hD hk9 hq hP1 hD1) hS1)
theorem m_last (hexec : p.tables.exec = Jvm.exec) (hb : c.code = cc) (hC : Cx G s) (hM : Hm G M H) (hS : va_S (AG G) H0 H locs) {n : Nat} {f : Nat → Int64} (ha : M a = some (.inl (G.2.1 1, n, .inr (.inl f)))) {i : Int32} {x : Int64} (hin : vp_in i n) (hdg : decode cc pc = .ok (.lastore, 1))
    (kk : ∀ (H1 : Heap) (locs1 : List Loc), Hm G (va_up M a (some (.inl (G.2.1 1, n, .inr (.inl (vp_updL f i.toNatClampNeg x)))))) H1 → va_S (AG G) H0 H1 locs1 → W p l e R s m args below meth c H1 locs1 cells slots Q (F0 m (pc + 1) ls rest)) : W p l e R s m args below meth c H locs cells slots Q (F0 m pc ls (.long x :: .int i :: .ref a :: rest)) := by
  obtain ⟨ws, hP, hD, hk9⟩ := hM
  obtain ⟨q, hq⟩ := hk9 _ _ ha
  exact va_last hexec hb hC.k hP hD hS q 1 hq rfl hin hdg (fun H1 locs1 hP1 hD1 hS1 => kk H1 locs1 (Hm.set hD hk9 hq hP1 hD1) hS1)
theorem m_astq (hexec : p.tables.exec = Jvm.exec) (hb : c.code = cc) (hC : Cx G s) (hM : Hm G M H) (hS : va_S (AG G) H0 H locs) {n v ci : Nat} {f : Nat → Option Nat} (t0 : Nat) {r : vw_C} {vs : List Value} (ht : (tyG G)[t0]? = some (G.2.1 t0, .object r.1)) (ha : M a = some (.inl (G.2.1 t0, n, .inr (.inr (.inr (.inr f)))))) (hv : M v = some (.inr (ci, vs))) (hc : vwCl[ci]? = some r) {i : Int32} (hin : vp_in i n) (hdg : decode cc pc = .ok (.aastore, 1))
    (kk : ∀ (H1 : Heap) (locs1 : List Loc), Hm G (va_up M a (some (.inl (G.2.1 t0, n, .inr (.inr (.inr (.inr (va_up f i.toNatClampNeg (some v)))))))) ) H1 → va_S (AG G) H0 H1 locs1 → W p l e R s m args below meth c H1 locs1 cells slots Q (F0 m (pc + 1) ls rest)) : W p l e R s m args below meth c H locs cells slots Q (F0 m pc ls (.ref v :: .int i :: .ref a :: rest)) := by
  obtain ⟨ws, hP, hD, hk9⟩ := hM
  obtain ⟨q, hq⟩ := hk9 _ _ ha
  obtain ⟨q2, hq2⟩ := hk9 _ _ hv
  exact va_astq hexec hb hC.k hP hD hS q t0 q2 ci hq ht hq2 hc hin hdg (fun H1 locs1 hP1 hD1 hS1 => kk H1 locs1 (Hm.set hD hk9 hq hP1 hD1) hS1)
theorem m_new {own C : String} {T : u_T} {N ci index : Nat} {Ts : List Cond} (hexec : p.tables.exec = Jvm.exec) (hb : c.code = cc) (hts : ∀ w ∈ Ts, w.before args s = true) (hin : ∀ w ∈ u_ws C T N, w ∈ Ts) (ty : Nat → FieldType) (hty : ∀ k, k < N → parseFieldDescriptor (T k).2.2.1 = some (ty k)) (hown : s.vm.findClass own = some m.cls) (hcl : (Cond.classLink own index C).before args s = true) (hinst : (Cond.instantiable C N).before args s = true) (hini : (Cond.initialized C).before args s = true)
    (hC : Cx G s) (hM : Hm G M H) (hS : va_S (AG G) H0 H locs) (h0 : G.2.2 ≤ H0.size) (hc : vwCl[ci]? = some (C, T, N)) {fs : List Value} (hfs : ∀ j, j < N → defaultValue (ty j) = vp_V fs j) (hcells : cells + 1 ≤ R.cells) (hslots : slots + N ≤ R.slots) (hdg : decode cc pc = .ok (.new index, 3))
    (kk : ∀ (q : Nat) (H1 : Heap), M q = none → Hm G (va_up M q (some (.inr (ci, fs)))) H1 → va_S (AG G) H0 H1 locs →
      W p l e R s m args below meth c H1 locs (cells + 1) (slots + N) Q (F0 m (pc + 3) ls (.ref q :: rest))) : W p l e R s m args below meth c H locs cells slots Q (F0 m pc ls rest) := by
  obtain ⟨ws, hP, hD, hk9⟩ := hM
  exact va_new hexec hb hts hin ty hty hown hcl hinst hini hC.k hP hD hS (fun q h => Nat.le_trans h0 h) hc hfs hcells hslots hdg (fun q H1 hP1 hD1 hS1 => kk q H1 (Hm.push hk9 hP1 hD1).1 (Hm.push hk9 hP1 hD1).2 hS1)
theorem va_RA_eq {U : State} {a b : ClassId} {ty : FieldType} (h1 : va_RA U a ty) (h2 : va_RA U b ty) : a = b := by
  cases ty with
  | object C =>
    obtain ⟨_, _, _, _, _, h4⟩ := h1
    obtain ⟨_, _, _, _, _, h5⟩ := h2
    exact Option.some.inj (h4.symm.trans h5)
  | _ => exact Option.some.inj (Eq.trans (Eq.symm h1) h2)
theorem m_newa (hexec : p.tables.exec = Jvm.exec) (hb : c.code = cc) {atype : ArrayType} (harr : (Cond.arrayClass (newarray.typeOf atype)).before args s = true) {ty : FieldType} (hty : newarray.typeOf atype = ty) (t0 : Nat) (hC : Cx G s) (ht : (tyG G)[t0]? = some (G.2.1 t0, ty)) (hM : Hm G M H) (hS : va_S (AG G) H0 H locs) (h0 : G.2.2 ≤ H0.size)
    {n : Int32} {N' : Nat} {a0 : vp_A} (ha : ∀ cA : ClassId, vp_cell cA a0 = arrV cA N' (fun _ => defaultValue ty)) (hn : ¬ n < 0) (hN : n.toNatClampNeg = N') (hbytes : N' * componentBytes ty ≤ 536870912) (hcells : cells + 1 ≤ R.cells) (hslots : slots + N' ≤ R.slots) (hdg : decode cc pc = .ok (.newarray atype, 2))
    (kk : ∀ (q : Nat) (H1 : Heap), M q = none → Hm G (va_up M q (some (.inl (G.2.1 t0, a0)))) H1 → va_S (AG G) H0 H1 locs →
      W p l e R s m args below meth c H1 locs (cells + 1) (slots + N') Q (F0 m (pc + 2) ls (.ref q :: rest))) : W p l e R s m args below meth c H locs cells slots Q (F0 m pc ls (.int n :: rest)) := by
  obtain ⟨ws, hP, hD, hk9⟩ := hM
  refine va_newa hexec hb harr hty hC.k hP hD hS (fun q h => Nat.le_trans h0 h) ha hn hN hbytes hcells hslots hdg (fun q cA H1 hK1 hP1 hD1 hS1 => ?_)
  have h1 := (hC.k.2 t0 _ ht).2
  have h2 := (hK1.2 (tyG G).length (cA, ty) (by simp)).2
  have h3 : cA = G.2.1 t0 := va_RA_eq h2 h1
  subst h3
  exact kk q H1 (Hm.push hk9 hP1 hD1).1 (Hm.push hk9 hP1 hD1).2 hS1
end MK
end
section
/-! ===== BEGIN .. of methods that hand back an object of the pool ===== -/
section
variable {p : Program} {l : Launch} {e : Env} {R : Room} {s : State} {m : MethodId} {args : Array Value} {below : List Frame} {meth : Method} {c : Code} {H : Heap} {locs : List Loc} {cells slots : Nat} {Q : State → Prop}
variable {mc ms : Nat} {free : Addr → Prop} {A0 A1 : Nat → Prop} {H0 : Heap} {a : Array Value} {pc : Nat} {ls : Array Slot} {st0 rest : List Value}
theorem vx_callq {S SX : Type} {post : Option Nat → S → Prop} {px : SX → Prop} {B : S → State → Prop} {BX : String → SX → State → Prop} {AX : Nat → Prop} (hr : vx_Run p l e R s m args below meth c H locs cells slots mc ms (F0 m pc ls st0) rest (va_Qq post B A1 a) (vx_X px BX AX) free) (hS : va_S A0 H0 H locs) (hA : ∀ q, q < H.size → A1 q → A0 q) (hf : ∀ q, free q → A0 q) (hAX : ∀ q, q < H.size → AX q → A0 q)
    (kx : ∀ (E : String) (ce : Cell) (q9 : Addr) (u : SX) (t : State) (H1 : Heap) (locs1 : List Loc), t.heap = H1 → s.vm.Alike t.vm → px u → BX E u t → H.size ≤ H1.size → (∀ q : Nat, q < H.size → ¬ AX q → H1[q]? = H[q]?) → va_S A0 H0 H1 locs1 → H1[q9]? = some ce → ce.vm = .none → s.vm.findClass E = some ce.cls → vx_W p l e R s m args below meth c H1 locs1 (cells + mc) (slots + ms) Q (F0 m pc ls rest) q9)
    (kk : ∀ (r : Option Nat) (u : S) (t : State) (H1 : Heap) (locs1 : List Loc), t.heap = H1 → s.vm.Alike t.vm → post r u → B u t → H.size ≤ H1.size → (∀ q : Nat, q < H.size → ¬ A1 q → H1[q]? = H[q]?) → va_S A0 H0 H1 locs1 → W p l e R s m args below meth c H1 locs1 (cells + mc) (slots + ms) Q (F0 m (pc + 3) ls (va_rf r :: rest))) : W p l e R s m args below meth c H locs cells slots Q (F0 m pc ls st0) := by
  intro T hT X
  rcases hr T hT X with ⟨v, st₀, t, T', L, h0, X', hL, e1, e2, ⟨⟨r, u, hv, hp, hb⟩, hF⟩, st⟩ | ⟨q, st₀, t, T', L, E, ce, h0, X', hL, e1, e2, ⟨u, hp, hb, hF⟩, hce, hcv, hcl, st⟩
  · cases hv
    obtain ⟨k1, k2, k3⟩ := vx_keep h0 e1 hS hA hf hL hF
    obtain ⟨t2, a1, b1⟩ := kk r u t T'.heap (locs ++ L) e1.symm (by rw [← e2]; exact X'.warmed.alike) hp hb k1 k2 k3 T' rfl X'
    exact ⟨t2, st t2 a1, b1⟩
  · obtain ⟨k1, k2, k3⟩ := vx_keep h0 e1 hS hAX hf hL hF
    obtain ⟨t2, a1, b1⟩ := kx E ce q u t T'.heap (locs ++ L) e1.symm (by rw [← e2]; exact X'.warmed.alike) hp hb k1 k2 k3 (by rw [e1]; exact hce) hcv hcl T' rfl X'
    exact ⟨t2, st.trans a1, b1⟩
end
/-! ===== END ===== -/
abbrev Bm {S : Type} (G : Gx) (M1 : S → Mp) : S → State → Prop := fun u t => Hm G (M1 u) t.heap
abbrev Xq (G : Gx) (M : Mp) (PE : String → Prop) : String → State → State → Prop := vx_X (S := Unit) (fun _ => True) (fun E _ t => PE E ∧ Hm G M t.heap) (AG G)
section MR
variable {p : Program} {l : Launch} {e : Env} {R : Room} {s : State} {m : MethodId} {args : Array Value} {below : List Frame} {meth : Method} {c : Code} {H : Heap} {locs : List Loc} {cells slots : Nat} {Q : State → Prop}
variable {cc : ByteArray} {pc : Nat} {ls : Array Slot} {rest st0 : List Value} {G : Gx} {M : Mp} {H0 : Heap} {mc ms : Nat} {aa : Array Value}

theorem r_i {S : Type} {post : Int32 → S → Prop} {M1 : S → Mp} (hx : p.tables.exec = Jvm.exec) (hb : c.code = cc) (hr : meth.sig.returnType = some .int) (hlocks : meth.locks = false) (hS : va_S (AG G) s.heap H locs) {v : Int32} (u : S) (hp : post v u) (hM : Hm G (M1 u) H) (hc : cells ≤ mc) (hs : slots ≤ ms) (hdg : decode cc pc = .ok (.ireturn, 1)) :
    W p l e R s m args below meth c H locs cells slots (MQ below (va_Qi post (Bm G M1) (AG G)) args s mc ms (AG G)) (F0 m pc ls [.int v]) :=
  W.widen hc hs (W.iret hx hb hr (fun t ht _ => ⟨⟨v, u, rfl, hp, by show Hm G (M1 u) t.heap; rw [ht]; exact hM⟩, hS.F ht⟩) hS.2.2 hdg hlocks)
theorem r_l {S : Type} {post : Int64 → S → Prop} {M1 : S → Mp} (hx : p.tables.exec = Jvm.exec) (hb : c.code = cc) (hr : meth.sig.returnType = some .long) (hlocks : meth.locks = false) (hS : va_S (AG G) s.heap H locs) {v : Int64} (u : S) (hp : post v u) (hM : Hm G (M1 u) H) (hc : cells ≤ mc) (hs : slots ≤ ms) (hdg : decode cc pc = .ok (.lreturn, 1)) :
    W p l e R s m args below meth c H locs cells slots (MQ below (va_Ql post (Bm G M1) (AG G)) args s mc ms (AG G)) (F0 m pc ls [.long v]) :=
  W.widen hc hs (W.lret hx hb hr (fun t ht _ => ⟨⟨v, u, rfl, hp, by show Hm G (M1 u) t.heap; rw [ht]; exact hM⟩, hS.F ht⟩) hS.2.2 hdg hlocks)
theorem r_z {S : Type} {post : Int32 → S → Prop} {M1 : S → Mp} (hx : p.tables.exec = Jvm.exec) (hb : c.code = cc) (hr : meth.sig.returnType = some .boolean) (hlocks : meth.locks = false) (hS : va_S (AG G) s.heap H locs) {v : Int32} (hv : v = 0 ∨ v = 1) (u : S) (hp : post v u) (hM : Hm G (M1 u) H) (hc : cells ≤ mc) (hs : slots ≤ ms) (hdg : decode cc pc = .ok (.ireturn, 1)) :
    W p l e R s m args below meth c H locs cells slots (MQ below (va_Qi post (Bm G M1) (AG G)) args s mc ms (AG G)) (F0 m pc ls [.int v]) :=
  W.widen hc hs (W.zret hx hb hr (by rcases hv with rfl | rfl <;> rfl) (fun t ht _ => ⟨⟨v, u, rfl, hp, by show Hm G (M1 u) t.heap; rw [ht]; exact hM⟩, hS.F ht⟩) hS.2.2 hdg hlocks)
theorem r_v {S : Type} {post : S → Prop} {M1 : S → Mp} (hx : p.tables.exec = Jvm.exec) (hb : c.code = cc) (hr : meth.sig.returnType = none) (hlocks : meth.locks = false) (hS : va_S (AG G) s.heap H locs) (u : S) (hp : post u) (hM : Hm G (M1 u) H) (hc : cells ≤ mc) (hs : slots ≤ ms) (hdg : decode cc pc = .ok (.return_, 1)) :
    W p l e R s m args below meth c H locs cells slots (MQ below (va_Qv post (Bm G M1) (AG G)) args s mc ms (AG G)) (F0 m pc ls []) :=
  W.widen hc hs (W.vret hx hb hr (fun t ht _ => ⟨⟨u, rfl, hp, by show Hm G (M1 u) t.heap; rw [ht]; exact hM⟩, hS.F ht⟩) hS.2.2 hdg hlocks)
theorem r_q {S : Type} {post : Option Nat → S → Prop} {M1 : S → Mp} {C : String} (hx : p.tables.exec = Jvm.exec) (hb : c.code = cc) (hr : meth.sig.returnType = some (.object C)) (hlocks : meth.locks = false) (hS : va_S (AG G) s.heap H locs) (r : Option Nat) {v : Value} (hv : v = va_rf r) (u : S) (hp : post r u) (hM : Hm G (M1 u) H) (hc : cells ≤ mc) (hs : slots ≤ ms) (hdg : decode cc pc = .ok (.areturn, 1)) :
    W p l e R s m args below meth c H locs cells slots (MQ below (va_Qq post (Bm G M1) (AG G)) args s mc ms (AG G)) (F0 m pc ls [v]) :=
  W.widen hc hs (W.aret hx hb hr (Or.inl ⟨C, rfl⟩) (by subst hv; cases r with | none => exact Or.inl rfl | some a => exact Or.inr ⟨a, rfl⟩) (fun t ht _ => ⟨⟨r, u, by rw [hv], hp, by show Hm G (M1 u) t.heap; rw [ht]; exact hM⟩, hS.F ht⟩) hS.2.2 hdg hlocks)
theorem r_out {Qc : Array Value → State → Outcome → State → Prop} {PE : String → Prop} {E : String} {ce : Cell} {q : Addr} (ht : ∀ x ∈ c.exceptionTable.toList, False) (hlocks : meth.locks = false) (hS : va_S (AG G) s.heap H locs) (hM : Hm G M H) (hPE : PE E) (hcell : H[q]? = some ce) (hv : ce.vm = .none) (hcl : s.vm.findClass E = some ce.cls) (hc : cells ≤ mc) (hs : slots ≤ ms) :
    vx_W p l e R s m args below meth c H locs cells slots (vx_MQ below Qc (Xq G M PE) args s mc ms (AG G)) (F0 m pc ls rest) q :=
  vx_out (fun x hx => absurd (ht x hx) id) hlocks hcell hv hcl (fun t ht2 _ => ⟨(), trivial, ⟨hPE, by show Hm G M t.heap; rw [ht2]; exact hM⟩, hS.F ht2⟩) hS.2.2 hc hs
theorem m_throw {cls text : String} {ik is ic : Nat} (hx : p.tables.exec = Jvm.exec) (hb : c.code = cc) (hnt : l.stackTraces = false) (hml : c.maxLocals = ls.size) (hlocks : meth.locks = false) (hown : s.vm.findClass RX5 = some m.cls) (ht : ∀ x ∈ c.exceptionTable.toList, False) (hC : Cx G s) (hS : va_S (AG G) s.heap H locs) (hM : Hm G M H)
    (hk : (Cond.classLink RX5 ik cls).before args s = true) (hini : (Cond.initialized cls).before args s = true) (hstr : (is, text) ∈ XS)
    (hg : ∀ w ∈ (vx_atS RX5 ic cls ["java/lang/RuntimeException", "java/lang/Exception"]).filter goodWord, w.before args s = true)
    (hn : ∀ w ∈ (vx_atS RX5 ic cls ["java/lang/RuntimeException", "java/lang/Exception"]).filter (fun w => !goodWord w), w ∈ XC)
    (hcls : Bundle.fit cls = true)
    (hgood : ∀ w ∈ Cond.classLink RX5 ik cls :: Cond.initialized cls :: vx_atS RX5 ic cls ["java/lang/RuntimeException", "java/lang/Exception"], vx_ot w = true)
    (d0 : decode cc pc = .ok (.new ik, 3)) (d3 : decode cc (pc + 3) = .ok (.dup, 1)) (d4 : decode cc (pc + 4) = .ok (.ldc is, 2)) (d6 : decode cc (pc + 6) = .ok (.invokespecial ic, 3)) (d9 : decode cc (pc + 9) = .ok (.athrow, 1))
    (hRframes : 5 < R.frames) (hRlocals : (rest.map fun v => v.category).sum + 82 ≤ R.locals) (hRcells : cells + 1 ≤ R.cells) (hRslots : slots + 6 ≤ R.slots) (hc : cells + 1 ≤ mc) (hs : slots + 6 ≤ ms) {PE : String → Prop} (hPE : PE cls) {Qc : Array Value → State → Outcome → State → Prop} :
    W p l e R s m args below meth c H locs cells slots (vx_MQ below Qc (Xq G M PE) args s mc ms (AG G)) (F0 m pc ls rest) := by
  obtain ⟨sa, hsa⟩ := hC.2.2.2.2.1 _ hstr
  refine vx_throwS (A := AG G) hx hb hnt hown hcls (by decide +kernel) hk hini hsa (vx_hat hg hn (fun w hw => va_Nw.use (List.all_eq_true.mp (by decide +kernel : XC.all (fun w => w.onTables) = true) w hw) (hC.2.2.2.1 w hw))) hgood hC.2.2.2.2.2.2.2.1 hC.2.2.2.2.2.2.2.2 hS hml.symm d0 d3 d4 d6 d9 (fun x hx => absurd (ht x hx) id) hRframes hRlocals hRcells hRslots hlocks (fun t _ h1 h2 => ⟨(), trivial, ⟨hPE, hM.kept h2⟩, ?_⟩) hS.2.2 hc hs
  exact ⟨Nat.le_trans hS.1 h1, fun q hq hA => (h2 q (Nat.lt_of_lt_of_le hq hS.1)).trans (hS.2.1 q hq hA)⟩
theorem k_i {S : Type} {post : Int32 → S → Prop} {M1 : S → Mp} (hr : va_Run p l e R s m args below meth c H locs cells slots mc ms (F0 m pc ls st0) rest (va_Qi post (Bm G M1) (AG G) aa) (AG G)) (hS : va_S (AG G) H0 H locs)
    (kk : ∀ (r : Int32) (u : S) (H1 : Heap) (locs1 : List Loc), post r u → Hm G (M1 u) H1 → va_S (AG G) H0 H1 locs1 → W p l e R s m args below meth c H1 locs1 (cells + mc) (slots + ms) Q (F0 m (pc + 3) ls (.int r :: rest))) : W p l e R s m args below meth c H locs cells slots Q (F0 m pc ls st0) :=
  va_calli hr hS (fun q _ h => h) (fun q h => h) (fun r u t H1 locs1 ht _ hw hB _ _ hS1 => kk r u H1 locs1 hw (by rw [← ht]; exact hB) hS1)
theorem kx_i {S : Type} {post : Int32 → S → Prop} {M1 : S → Mp} {PE : String → Prop} (hr : vx_Run p l e R s m args below meth c H locs cells slots mc ms (F0 m pc ls st0) rest (va_Qi post (Bm G M1) (AG G) aa) (Xq G M PE) (AG G)) (hS : va_S (AG G) H0 H locs)
    (kx : ∀ (E : String) (ce : Cell) (q9 : Addr) (H1 : Heap) (locs1 : List Loc), PE E → Hm G M H1 → va_S (AG G) H0 H1 locs1 → H1[q9]? = some ce → ce.vm = .none → s.vm.findClass E = some ce.cls → vx_W p l e R s m args below meth c H1 locs1 (cells + mc) (slots + ms) Q (F0 m pc ls rest) q9)
    (kk : ∀ (r : Int32) (u : S) (H1 : Heap) (locs1 : List Loc), post r u → Hm G (M1 u) H1 → va_S (AG G) H0 H1 locs1 → W p l e R s m args below meth c H1 locs1 (cells + mc) (slots + ms) Q (F0 m (pc + 3) ls (.int r :: rest))) : W p l e R s m args below meth c H locs cells slots Q (F0 m pc ls st0) :=
  vx_calli hr hS (fun q _ h => h) (fun q h => h) (fun q _ h => h) (fun E ce q9 _ t H1 locs1 ht _ _ hB _ _ hS1 h1 h2 h3 => kx E ce q9 H1 locs1 hB.1 (by rw [← ht]; exact hB.2) hS1 h1 h2 h3) (fun r u t H1 locs1 ht _ hw hB _ _ hS1 => kk r u H1 locs1 hw (by rw [← ht]; exact hB) hS1)
theorem k_l {S : Type} {post : Int64 → S → Prop} {M1 : S → Mp} (hr : va_Run p l e R s m args below meth c H locs cells slots mc ms (F0 m pc ls st0) rest (va_Ql post (Bm G M1) (AG G) aa) (AG G)) (hS : va_S (AG G) H0 H locs)
    (kk : ∀ (r : Int64) (u : S) (H1 : Heap) (locs1 : List Loc), post r u → Hm G (M1 u) H1 → va_S (AG G) H0 H1 locs1 → W p l e R s m args below meth c H1 locs1 (cells + mc) (slots + ms) Q (F0 m (pc + 3) ls (.long r :: rest))) : W p l e R s m args below meth c H locs cells slots Q (F0 m pc ls st0) :=
  va_calll hr hS (fun q _ h => h) (fun q h => h) (fun r u t H1 locs1 ht _ hw hB _ _ hS1 => kk r u H1 locs1 hw (by rw [← ht]; exact hB) hS1)
theorem kx_l {S : Type} {post : Int64 → S → Prop} {M1 : S → Mp} {PE : String → Prop} (hr : vx_Run p l e R s m args below meth c H locs cells slots mc ms (F0 m pc ls st0) rest (va_Ql post (Bm G M1) (AG G) aa) (Xq G M PE) (AG G)) (hS : va_S (AG G) H0 H locs)
    (kx : ∀ (E : String) (ce : Cell) (q9 : Addr) (H1 : Heap) (locs1 : List Loc), PE E → Hm G M H1 → va_S (AG G) H0 H1 locs1 → H1[q9]? = some ce → ce.vm = .none → s.vm.findClass E = some ce.cls → vx_W p l e R s m args below meth c H1 locs1 (cells + mc) (slots + ms) Q (F0 m pc ls rest) q9)
    (kk : ∀ (r : Int64) (u : S) (H1 : Heap) (locs1 : List Loc), post r u → Hm G (M1 u) H1 → va_S (AG G) H0 H1 locs1 → W p l e R s m args below meth c H1 locs1 (cells + mc) (slots + ms) Q (F0 m (pc + 3) ls (.long r :: rest))) : W p l e R s m args below meth c H locs cells slots Q (F0 m pc ls st0) :=
  vx_calll hr hS (fun q _ h => h) (fun q h => h) (fun q _ h => h) (fun E ce q9 _ t H1 locs1 ht _ _ hB _ _ hS1 h1 h2 h3 => kx E ce q9 H1 locs1 hB.1 (by rw [← ht]; exact hB.2) hS1 h1 h2 h3) (fun r u t H1 locs1 ht _ hw hB _ _ hS1 => kk r u H1 locs1 hw (by rw [← ht]; exact hB) hS1)
theorem k_q {S : Type} {post : Option Nat → S → Prop} {M1 : S → Mp} (hr : va_Run p l e R s m args below meth c H locs cells slots mc ms (F0 m pc ls st0) rest (va_Qq post (Bm G M1) (AG G) aa) (AG G)) (hS : va_S (AG G) H0 H locs)
    (kk : ∀ (r : Option Nat) (u : S) (H1 : Heap) (locs1 : List Loc), post r u → Hm G (M1 u) H1 → va_S (AG G) H0 H1 locs1 → W p l e R s m args below meth c H1 locs1 (cells + mc) (slots + ms) Q (F0 m (pc + 3) ls (va_rf r :: rest))) : W p l e R s m args below meth c H locs cells slots Q (F0 m pc ls st0) :=
  va_callq hr hS (fun q _ h => h) (fun q h => h) (fun r u t H1 locs1 ht _ hw hB _ _ hS1 => kk r u H1 locs1 hw (by rw [← ht]; exact hB) hS1)
theorem kx_q {S : Type} {post : Option Nat → S → Prop} {M1 : S → Mp} {PE : String → Prop} (hr : vx_Run p l e R s m args below meth c H locs cells slots mc ms (F0 m pc ls st0) rest (va_Qq post (Bm G M1) (AG G) aa) (Xq G M PE) (AG G)) (hS : va_S (AG G) H0 H locs)
    (kx : ∀ (E : String) (ce : Cell) (q9 : Addr) (H1 : Heap) (locs1 : List Loc), PE E → Hm G M H1 → va_S (AG G) H0 H1 locs1 → H1[q9]? = some ce → ce.vm = .none → s.vm.findClass E = some ce.cls → vx_W p l e R s m args below meth c H1 locs1 (cells + mc) (slots + ms) Q (F0 m pc ls rest) q9)
    (kk : ∀ (r : Option Nat) (u : S) (H1 : Heap) (locs1 : List Loc), post r u → Hm G (M1 u) H1 → va_S (AG G) H0 H1 locs1 → W p l e R s m args below meth c H1 locs1 (cells + mc) (slots + ms) Q (F0 m (pc + 3) ls (va_rf r :: rest))) : W p l e R s m args below meth c H locs cells slots Q (F0 m pc ls st0) :=
  vx_callq hr hS (fun q _ h => h) (fun q h => h) (fun q _ h => h) (fun E ce q9 _ t H1 locs1 ht _ _ hB _ _ hS1 h1 h2 h3 => kx E ce q9 H1 locs1 hB.1 (by rw [← ht]; exact hB.2) hS1 h1 h2 h3) (fun r u t H1 locs1 ht _ hw hB _ _ hS1 => kk r u H1 locs1 hw (by rw [← ht]; exact hB) hS1)
theorem k_v {S : Type} {post : S → Prop} {M1 : S → Mp} (hr : va_Run p l e R s m args below meth c H locs cells slots mc ms (F0 m pc ls st0) rest (va_Qv post (Bm G M1) (AG G) aa) (AG G)) (hS : va_S (AG G) H0 H locs)
    (kk : ∀ (u : S) (H1 : Heap) (locs1 : List Loc), post u → Hm G (M1 u) H1 → va_S (AG G) H0 H1 locs1 → W p l e R s m args below meth c H1 locs1 (cells + mc) (slots + ms) Q (F0 m (pc + 3) ls rest)) : W p l e R s m args below meth c H locs cells slots Q (F0 m pc ls st0) :=
  va_callv hr hS (fun q _ h => h) (fun q h => h) (fun u t H1 locs1 ht _ hw hB _ _ hS1 => kk u H1 locs1 hw (by rw [← ht]; exact hB) hS1)
theorem kx_v {S : Type} {post : S → Prop} {M1 : S → Mp} {PE : String → Prop} (hr : vx_Run p l e R s m args below meth c H locs cells slots mc ms (F0 m pc ls st0) rest (va_Qv post (Bm G M1) (AG G) aa) (Xq G M PE) (AG G)) (hS : va_S (AG G) H0 H locs)
    (kx : ∀ (E : String) (ce : Cell) (q9 : Addr) (H1 : Heap) (locs1 : List Loc), PE E → Hm G M H1 → va_S (AG G) H0 H1 locs1 → H1[q9]? = some ce → ce.vm = .none → s.vm.findClass E = some ce.cls → vx_W p l e R s m args below meth c H1 locs1 (cells + mc) (slots + ms) Q (F0 m pc ls rest) q9)
    (kk : ∀ (u : S) (H1 : Heap) (locs1 : List Loc), post u → Hm G (M1 u) H1 → va_S (AG G) H0 H1 locs1 → W p l e R s m args below meth c H1 locs1 (cells + mc) (slots + ms) Q (F0 m (pc + 3) ls rest)) : W p l e R s m args below meth c H locs cells slots Q (F0 m pc ls st0) :=
  vx_callv hr hS (fun q _ h => h) (fun q h => h) (fun q _ h => h) (fun E ce q9 _ t H1 locs1 ht _ _ hB _ _ hS1 h1 h2 h3 => kx E ce q9 H1 locs1 hB.1 (by rw [← ht]; exact hB.2) hS1 h1 h2 h3) (fun u t H1 locs1 ht _ hw hB _ _ hS1 => kk u H1 locs1 hw (by rw [← ht]; exact hB) hS1)
end MR
end
section
/-! spec, part 1: numbers -/
theorem Cx.ao {G : Gx} {s : State} (h : Cx G s) {C : String} (i : Nat) (hc : [RX0, RX2, RX3, RX4][i]? = some C) : va_AO C s := h.2.2.2.2.2.2.1 C (List.mem_of_getElem? hc)
theorem m_newq {p : Program} {l : Launch} {e : Env} {R : Room} {s : State} {m : MethodId} {args : Array Value} {below : List Frame} {meth : Method} {c : Code} {H : Heap} {locs : List Loc} {cells slots : Nat} {Q : State → Prop} {cc : ByteArray} {pc : Nat} {ls : Array Slot} {rest : List Value} {G : Gx} {M : Mp} {H0 : Heap} (hexec : p.tables.exec = Jvm.exec) (hb : c.code = cc) {own C : String} {index : Nat} (hown : s.vm.findClass own = some m.cls) (hclink : (Cond.classLink own index C).before args s = true) (hover : va_AO C s) (t0 : Nat) (hC : Cx G s) (ht : (tyG G)[t0]? = some (G.2.1 t0, .object C)) (hM : Hm G M H) (hS : va_S (AG G) H0 H locs) (h0 : G.2.2 ≤ H0.size)
    {n : Int32} {N' : Nat} (hn : ¬ n < 0) (hN : n.toNatClampNeg = N') (hbytes : N' * 4 ≤ 536870912) (hcells : cells + 1 ≤ R.cells) (hslots : slots + N' ≤ R.slots) (hdg : decode cc pc = .ok (.anewarray index, 3))
    (kk : ∀ (q : Nat) (H1 : Heap), M q = none → Hm G (va_up M q (some (.inl (G.2.1 t0, N', .inr (.inr (.inr (.inr (fun _ => none)))))))) H1 → va_S (AG G) H0 H1 locs →
      W p l e R s m args below meth c H1 locs (cells + 1) (slots + N') Q (F0 m (pc + 3) ls (.ref q :: rest))) : W p l e R s m args below meth c H locs cells slots Q (F0 m pc ls (.int n :: rest)) := by
  obtain ⟨ws, hP, hD, hk9⟩ := hM
  refine va_newq hexec hb hown hclink hover hC.k hP hD hS (fun q h => Nat.le_trans h0 h) hn hN hbytes hcells hslots hdg (fun q cA H1 hK1 hP1 hD1 hS1 => ?_)
  have h1 := (hC.k.2 t0 _ ht).2
  have h2 := (hK1.2 (tyG G).length (cA, .object C) (by simp)).2
  have h3 : cA = G.2.1 t0 := va_RA_eq h2 h1
  subst h3
  exact kk q H1 (Hm.push hk9 hP1 hD1).1 (Hm.push hk9 hP1 hD1).2 hS1
/-- 1 if i is an index below n -/
def ixb (i n : Int32) : Int32 := if 0 ≤ i ∧ i < n then 1 else 0
theorem ixb_t {i n : Int32} (h : ¬ ixb i n = 0) : 0 ≤ i ∧ i < n := by
  unfold ixb at h
  by_cases c : 0 ≤ i ∧ i < n
  · exact c
  · rw [if_neg c] at h; exact absurd rfl h
theorem ixb_f {i n : Int32} (h : ixb i n = 0) : ¬ (0 ≤ i ∧ i < n) := by
  intro c
  unfold ixb at h
  rw [if_pos c] at h
  exact absurd h (by decide)
theorem vin_of {i n : Int32} (k : Nat) (h : 0 ≤ i ∧ i < n) (hn : n.toInt = (k : Int)) : vp_in i k := by
  rw [vp_in_iff]
  have h1 := Int32.le_iff_toInt_le.mp h.1
  have h2 := Int32.lt_iff_toInt_lt.mp h.2
  rw [hn] at h2
  exact ⟨h1, h2⟩
theorem of_vin {i n : Int32} (k : Nat) (h : vp_in i k) (hn : n.toInt = (k : Int)) : 0 ≤ i ∧ i < n := by
  rw [vp_in_iff] at h
  exact ⟨Int32.le_iff_toInt_le.mpr h.1, Int32.lt_iff_toInt_lt.mpr (by rw [hn]; exact h.2)⟩
/-- at least 1 -/
def al1 (v : Int32) : Int32 := if v < 1 then 1 else v
theorem mx1 (v : Int32) : (if (1 : Int32) < v then v else 1) = al1 v := by
  unfold al1
  by_cases h : (1 : Int32) < v
  · rw [if_pos h, if_neg]
    intro h2
    have a := Int32.lt_iff_toInt_lt.mp h
    have b := Int32.lt_iff_toInt_lt.mp h2
    omega
  · rw [if_neg h]
    by_cases h2 : v < 1
    · rw [if_pos h2]
    · rw [if_neg h2]
      have a : ¬ (1 : Int32).toInt < v.toInt := fun z => h (Int32.lt_iff_toInt_lt.mpr z)
      have b : ¬ v.toInt < (1 : Int32).toInt := fun z => h2 (Int32.lt_iff_toInt_lt.mpr z)
      exact Int32.toInt_inj.mp (by omega)
/-- the home amount -/
def hom (amount rate : Int32) : Int64 := amount.toInt64 * rate.toInt64 / 10000
/-- the gain: of a buyer (bu not 0) or seller -/
def gn (bu lf ag mr : Int32) : Int64 := if bu = 0 then -(hom lf mr - hom lf ag) else hom lf mr - hom lf ag
/-- what a place of a row of longs gives to an index that may be anything -/
def rd (f : Nat → Int64) (i : Int32) (n : Int32) : Int64 := if 0 ≤ i ∧ i < n then f i.toNatClampNeg else 0
/-- is a day a business day, by the holidays f -/
def bus (f : Nat → Int32) (d : Int32) : Int32 := if d - d / 7 * 7 < 5 ∧ ¬ ((0 ≤ d ∧ d < 1001) ∧ ¬ f d.toNatClampNeg = 0) then 1 else 0
/-- the first business day from d on -/
def nbd (f : Nat → Int32) : Nat → Int32 → Int32
  | 0, d => d
  | n + 1, d => if d < 1001 ∧ bus f d = 0 then nbd f n (d + 1) else d
def tg (x : Int32) : Int32 := if x = 0 then 1 else 0
theorem up2 {M : Mp} {a : Nat} {x y : Option va_E} : va_up (va_up M a x) a y = va_up M a y := by
  funext b
  by_cases h : b = a <;> simp [va_up, h]
end
section
/-- two rows of five, added -/
def addrow (f g : Nat → Int64) : Nat → Int64 := fun m => if m < 5 then f m + g m else f m
theorem addrow_eq2 (f g : Nat → Int64) : (vp_updL (vp_updL (vp_updL (vp_updL (vp_updL f (0 : Int32).toNatClampNeg (f (0 : Int32).toNatClampNeg + rd g 0 5)) (1 : Int32).toNatClampNeg ((vp_updL f (0 : Int32).toNatClampNeg (f (0 : Int32).toNatClampNeg + rd g 0 5)) (1 : Int32).toNatClampNeg + rd g 1 5)) (2 : Int32).toNatClampNeg ((vp_updL (vp_updL f (0 : Int32).toNatClampNeg (f (0 : Int32).toNatClampNeg + rd g 0 5)) (1 : Int32).toNatClampNeg ((vp_updL f (0 : Int32).toNatClampNeg (f (0 : Int32).toNatClampNeg + rd g 0 5)) (1 : Int32).toNatClampNeg + rd g 1 5)) (2 : Int32).toNatClampNeg + rd g 2 5)) (3 : Int32).toNatClampNeg ((vp_updL (vp_updL (vp_updL f (0 : Int32).toNatClampNeg (f (0 : Int32).toNatClampNeg + rd g 0 5)) (1 : Int32).toNatClampNeg ((vp_updL f (0 : Int32).toNatClampNeg (f (0 : Int32).toNatClampNeg + rd g 0 5)) (1 : Int32).toNatClampNeg + rd g 1 5)) (2 : Int32).toNatClampNeg ((vp_updL (vp_updL f (0 : Int32).toNatClampNeg (f (0 : Int32).toNatClampNeg + rd g 0 5)) (1 : Int32).toNatClampNeg ((vp_updL f (0 : Int32).toNatClampNeg (f (0 : Int32).toNatClampNeg + rd g 0 5)) (1 : Int32).toNatClampNeg + rd g 1 5)) (2 : Int32).toNatClampNeg + rd g 2 5)) (3 : Int32).toNatClampNeg + rd g 3 5)) (4 : Int32).toNatClampNeg ((vp_updL (vp_updL (vp_updL (vp_updL f (0 : Int32).toNatClampNeg (f (0 : Int32).toNatClampNeg + rd g 0 5)) (1 : Int32).toNatClampNeg ((vp_updL f (0 : Int32).toNatClampNeg (f (0 : Int32).toNatClampNeg + rd g 0 5)) (1 : Int32).toNatClampNeg + rd g 1 5)) (2 : Int32).toNatClampNeg ((vp_updL (vp_updL f (0 : Int32).toNatClampNeg (f (0 : Int32).toNatClampNeg + rd g 0 5)) (1 : Int32).toNatClampNeg ((vp_updL f (0 : Int32).toNatClampNeg (f (0 : Int32).toNatClampNeg + rd g 0 5)) (1 : Int32).toNatClampNeg + rd g 1 5)) (2 : Int32).toNatClampNeg + rd g 2 5)) (3 : Int32).toNatClampNeg ((vp_updL (vp_updL (vp_updL f (0 : Int32).toNatClampNeg (f (0 : Int32).toNatClampNeg + rd g 0 5)) (1 : Int32).toNatClampNeg ((vp_updL f (0 : Int32).toNatClampNeg (f (0 : Int32).toNatClampNeg + rd g 0 5)) (1 : Int32).toNatClampNeg + rd g 1 5)) (2 : Int32).toNatClampNeg ((vp_updL (vp_updL f (0 : Int32).toNatClampNeg (f (0 : Int32).toNatClampNeg + rd g 0 5)) (1 : Int32).toNatClampNeg ((vp_updL f (0 : Int32).toNatClampNeg (f (0 : Int32).toNatClampNeg + rd g 0 5)) (1 : Int32).toNatClampNeg + rd g 1 5)) (2 : Int32).toNatClampNeg + rd g 2 5)) (3 : Int32).toNatClampNeg + rd g 3 5)) (4 : Int32).toNatClampNeg + rd g 4 5)) = addrow f g := by
  have e0 : (0 : Int32).toNatClampNeg = 0 := rfl
  have e1 : (1 : Int32).toNatClampNeg = 1 := rfl
  have e2 : (2 : Int32).toNatClampNeg = 2 := rfl
  have e3 : (3 : Int32).toNatClampNeg = 3 := rfl
  have e4 : (4 : Int32).toNatClampNeg = 4 := rfl
  have r0 : rd g 0 5 = g 0 := rfl
  have r1 : rd g 1 5 = g 1 := rfl
  have r2 : rd g 2 5 = g 2 := rfl
  have r3 : rd g 3 5 = g 3 := rfl
  have r4 : rd g 4 5 = g 4 := rfl
  rw [e0, e1, e2, e3, e4, r0, r1, r2, r3, r4]
  funext m
  rcases (show m = 0 ∨ m = 1 ∨ m = 2 ∨ m = 3 ∨ m = 4 ∨ 5 ≤ m by omega) with rfl | rfl | rfl | rfl | rfl | h
  · simp [vp_updL, addrow]
  · simp [vp_updL, addrow]
  · simp [vp_updL, addrow]
  · simp [vp_updL, addrow]
  · simp [vp_updL, addrow]
  · simp [vp_updL, addrow, show ¬ m < 5 by omega, show m ≠ 0 by omega, show m ≠ 1 by omega, show m ≠ 2 by omega, show m ≠ 3 by omega, show m ≠ 4 by omega]
/-- what a row of references gives to an index that may be anything -/
def rq (g : Nat → Option Nat) (i n : Int32) : Option Nat := if 0 ≤ i ∧ i < n then g i.toNatClampNeg else none
end
section
set_option maxHeartbeats 4000000 in
set_option maxRecDepth 100000 in
/-- isIndex -/
theorem c_X5_isIndex (l : Launch) (G : Gx) (M : Mp) (i n : Int32)  : Met l yX5_isIndex wsX5_isIndex ({ frames := 0, cells := 0, slots := 0, locals := 0 }) (Cv G M [.int i, .int n]) (va_Qi (S := Unit) (fun r _ => r = ixb i n) (Bm G (fun _ => M)) (AG G)) (0) (0) (AG G) := by
  refine m_met [.int i, .int n] [(0, .int i), (1, .int n)] (by decide) rfl rfl (Nat.le_of_ble_eq_true rfl) ?_
  intro p e s m below meth c ls hx hb hr hml hown hts hlocks hin hC hM hl hS
  refine lv_iload_n hx hb dX5_isIndex_0 rfl (lv_at hl 0 rfl) ?_
  refine lv_if_lt (tgt := 13) hx hb dX5_isIndex_1 (by decide) (fun c_1 => ?_) (fun c_1 => ?_)
  · refine lv_iconst (v := 0) hx hb dX5_isIndex_13 (by decide) ?_
    exact (r_z hx hb hr hlocks hS (v := 0) (by simp) () (by unfold ixb; rw [if_neg]; intro z; exact absurd z.1 (by simpa using c_1)) hM (Nat.le_of_ble_eq_true rfl) (Nat.le_of_ble_eq_true rfl) dX5_isIndex_14)
  · refine lv_iload_n hx hb dX5_isIndex_4 rfl (lv_at hl 0 rfl) ?_
    refine lv_iload_n hx hb dX5_isIndex_5 rfl (lv_at hl 1 rfl) ?_
    refine lv_icmp_ge (tgt := 13) hx hb dX5_isIndex_6 (by decide) (fun c_6 => ?_) (fun c_6 => ?_)
    · refine lv_iconst (v := 0) hx hb dX5_isIndex_13 (by decide) ?_
      exact (r_z hx hb hr hlocks hS (v := 0) (by simp) () (by unfold ixb; rw [if_neg]; intro z; exact absurd z.2 (by simpa using c_6)) hM (Nat.le_of_ble_eq_true rfl) (Nat.le_of_ble_eq_true rfl) dX5_isIndex_14)
    · refine lv_iconst (v := 1) hx hb dX5_isIndex_9 (by decide) ?_
      refine lv_goto (tgt := 14) hx hb dX5_isIndex_10 (by decide) ?_
      exact (r_z hx hb hr hlocks hS (v := 1) (by simp) () (by unfold ixb; rw [if_pos ⟨by simpa using c_1, by simpa using c_6⟩]) hM (Nat.le_of_ble_eq_true rfl) (Nat.le_of_ble_eq_true rfl) dX5_isIndex_14)
set_option maxHeartbeats 4000000 in
set_option maxRecDepth 100000 in
theorem c_X5_homeAmount (l : Launch) (G : Gx) (M : Mp) (am ra : Int32)  : Met l yX5_homeAmount wsX5_homeAmount ({ frames := 0, cells := 0, slots := 0, locals := 0 }) (Cv G M [.int am, .int ra]) (va_Ql (S := Unit) (fun r _ => r = hom am ra) (Bm G (fun _ => M)) (AG G)) (0) (0) (AG G) := by
  refine m_met [.int am, .int ra] [(0, .int am), (1, .int ra)] (by decide) rfl rfl (Nat.le_of_ble_eq_true rfl) ?_
  intro p e s m below meth c ls hx hb hr hml hown hts hlocks hin hC hM hl hS
  refine lv_iload_n hx hb dX5_homeAmount_0 rfl (lv_at hl 0 rfl) ?_
  refine lv_i2l hx hb dX5_homeAmount_1 rfl ?_
  refine lv_iload_n hx hb dX5_homeAmount_2 rfl (lv_at hl 1 rfl) ?_
  refine lv_i2l hx hb dX5_homeAmount_3 rfl ?_
  refine lv_lmul hx hb dX5_homeAmount_4 ?_
  refine lv_ldc2 (own := RX5) (v := 10000) hx hb hown (hts (.constantLong RX5 227 10000) (by decide +kernel)) dX5_homeAmount_5 ?_
  refine lv_ldiv hx hb dX5_homeAmount_8 (by decide) ?_
  exact (r_l hx hb hr hlocks hS (v := ((am.toInt64 * ra.toInt64) / 10000)) () rfl hM (Nat.le_of_ble_eq_true rfl) (Nat.le_of_ble_eq_true rfl) dX5_homeAmount_9)
set_option maxHeartbeats 4000000 in
set_option maxRecDepth 100000 in
theorem c_X2_laterRate (l : Launch) (G : Gx) (M : Mp) (a : Nat) (nu sp pt : Int32) (ra da : Int32) (fa : M a = some (.inr (2, [.int nu, .int sp, .int pt]))) : Met l yX2_laterRate wsX2_laterRate ({ frames := 1, cells := 0, slots := 0, locals := 23 }) (Cv G M [.ref a, .int ra, .int da]) (va_Qi (S := Unit) (fun r _ => r = al1 (ra + pt * da)) (Bm G (fun _ => M)) (AG G)) (0) (0) (AG G) := by
  refine m_met [.ref a, .int ra, .int da] [(0, .ref a), (1, .int ra), (2, .int da)] (by decide) rfl rfl (Nat.le_of_ble_eq_true rfl) ?_
  intro p e s m below meth c ls hx hb hr hml hown hts hlocks hin hC hM hl hS
  refine lv_iconst (v := 1) hx hb dX2_laterRate_0 (by decide) ?_
  refine lv_iload_n hx hb dX2_laterRate_1 rfl (lv_at hl 1 rfl) ?_
  refine lv_aload_n hx hb dX2_laterRate_2 rfl (lv_at hl 0 rfl) ?_
  refine m_get (ci := 2) (v := .int pt) (C := RX2) (T := TX2) (N := 3) (a := a) hx hb hts (by decide +kernel) hown hC hM fa rfl 2 (by decide) (hts (.fieldLink RX2 22 "Forwardroll$Currency" "points" "I") (by decide +kernel)) (fun _ h9 => h9) rfl dX2_laterRate_3 ?_
  refine lv_iload_n hx hb dX2_laterRate_6 rfl (lv_at hl 2 rfl) ?_
  refine lv_imul hx hb dX2_laterRate_7 ?_
  refine lv_iadd hx hb dX2_laterRate_8 ?_
  refine va_mmax (own := RX2) hx hb (hml.trans hl.1.symm) hown (hts (.methodLink RX2 25 Lib.Math.max.name) (by decide +kernel)) (hts (.static Lib.Math.max.name) (by decide +kernel)) (hts (.initialized "java/lang/Math") (by decide +kernel)) (hts (.code Lib.Math.max.name Lib.Math.max.code 2 (some .int)) (by decide +kernel)) (Nat.le_of_ble_eq_true rfl) (Nat.le_of_ble_eq_true rfl) (Nat.le_of_ble_eq_true rfl) (Nat.le_of_ble_eq_true rfl) dX2_laterRate_9 ?_
  exact (r_i hx hb hr hlocks hS (v := (if 1 < (ra + (pt * da)) then (ra + (pt * da)) else 1)) () (mx1 _) hM (Nat.le_of_ble_eq_true rfl) (Nat.le_of_ble_eq_true rfl) dX2_laterRate_12)
set_option maxHeartbeats 4000000 in
set_option maxRecDepth 100000 in
theorem c_X2_forwardRate (l : Launch) (G : Gx) (M : Mp) (a : Nat) (nu sp pt : Int32) (da : Int32) (fa : M a = some (.inr (2, [.int nu, .int sp, .int pt]))) : Met l yX2_forwardRate wsX2_forwardRate ({ frames := 2, cells := 0, slots := 0, locals := 45 }) (Cv G M [.ref a, .int da]) (va_Qi (S := Unit) (fun r _ => r = al1 (sp + pt * da)) (Bm G (fun _ => M)) (AG G)) (0) (0) (AG G) := by
  refine m_met [.ref a, .int da] [(0, .ref a), (1, .int da)] (by decide) rfl rfl (Nat.le_of_ble_eq_true rfl) ?_
  intro p e s m below meth c ls hx hb hr hml hown hts hlocks hin hC hM hl hS
  refine lv_aload_n hx hb dX2_forwardRate_0 rfl (lv_at hl 0 rfl) ?_
  refine lv_aload_n hx hb dX2_forwardRate_1 rfl (lv_at hl 0 rfl) ?_
  refine m_get (ci := 2) (v := .int sp) (C := RX2) (T := TX2) (N := 3) (a := a) hx hb hts (by decide +kernel) hown hC hM fa rfl 1 (by decide) (hts (.fieldLink RX2 9 "Forwardroll$Currency" "spotRate" "I") (by decide +kernel)) (fun _ h9 => h9) rfl dX2_forwardRate_2 ?_
  refine lv_iload_n hx hb dX2_forwardRate_5 rfl (lv_at hl 1 rfl) ?_
  refine k_i (va_runV (As := [.int sp, .int da]) (rest := []) ⟨hx, hb, hml, hown, hts⟩ (c_X2_laterRate l G M a nu sp pt sp da fa) (cwV 2 hts gX2_forwardRate_X2_laterRate rfl rfl rfl (by decide +kernel) ⟨Nat.le_of_ble_eq_true rfl, Nat.le_of_ble_eq_true rfl⟩) (preV_of hC hS hM fa rfl) rfl rfl hl.1 rfl (lv_room (Nat.le_of_ble_eq_true rfl)) dX2_forwardRate_6 ⟨Nat.le_of_ble_eq_true rfl, Nat.le_of_ble_eq_true rfl⟩) hS (fun r6 u6 H locs hp6 hM hS => ?_)
  have hM : Hm G M H := hM
  have hp6 : r6 = al1 (sp + pt * da) := hp6
  subst hp6
  exact (r_i hx hb hr hlocks hS (v := al1 (sp + pt * da)) () rfl hM (Nat.le_of_ble_eq_true rfl) (Nat.le_of_ble_eq_true rfl) dX2_forwardRate_9)
set_option maxHeartbeats 4000000 in
set_option maxRecDepth 100000 in
theorem c_X4_marketRate (l : Launch) (G : Gx) (M : Mp) (a cu cy : Nat) (bu lf ag fi la : Int32) (nu sp pt : Int32) (to : Int32) (fa : M a = some (.inr (4, [.ref cu, .ref cy, .int bu, .int lf, .int ag, .int fi, .int la]))) (fc : M cy = some (.inr (2, [.int nu, .int sp, .int pt]))) : Met l yX4_marketRate wsX4_marketRate ({ frames := 3, cells := 0, slots := 0, locals := 66 }) (Cv G M [.ref a, .int to]) (va_Qi (S := Unit) (fun r _ => r = al1 (sp + pt * (la - to))) (Bm G (fun _ => M)) (AG G)) (0) (0) (AG G) := by
  refine m_met [.ref a, .int to] [(0, .ref a), (1, .int to)] (by decide) rfl rfl (Nat.le_of_ble_eq_true rfl) ?_
  intro p e s m below meth c ls hx hb hr hml hown hts hlocks hin hC hM hl hS
  refine lv_aload_n hx hb dX4_marketRate_0 rfl (lv_at hl 0 rfl) ?_
  refine m_get (ci := 4) (v := .ref cy) (C := RX4) (T := TX4) (N := 7) (a := a) hx hb hts (by decide +kernel) hown hC hM fa rfl 1 (by decide) (hts (.fieldLink RX4 15 "Forwardroll$Deal" "currency" "LForwardroll$Currency;") (by decide +kernel)) (fun _ h9 => h9) rfl dX4_marketRate_1 ?_
  refine lv_aload_n hx hb dX4_marketRate_4 rfl (lv_at hl 0 rfl) ?_
  refine m_get (ci := 4) (v := .int la) (C := RX4) (T := TX4) (N := 7) (a := a) hx hb hts (by decide +kernel) hown hC hM fa rfl 6 (by decide) (hts (.fieldLink RX4 33 "Forwardroll$Deal" "lastDay" "I") (by decide +kernel)) (fun _ h9 => h9) rfl dX4_marketRate_5 ?_
  refine lv_iload_n hx hb dX4_marketRate_8 rfl (lv_at hl 1 rfl) ?_
  refine lv_isub hx hb dX4_marketRate_9 ?_
  refine k_i (va_runV (As := [.int (la - to)]) (rest := []) ⟨hx, hb, hml, hown, hts⟩ (c_X2_forwardRate l G M cy nu sp pt (la - to) fc) (cwV 1 hts gX4_marketRate_X2_forwardRate rfl rfl rfl (by decide +kernel) ⟨Nat.le_of_ble_eq_true rfl, Nat.le_of_ble_eq_true rfl⟩) (preV_of hC hS hM fc rfl) rfl rfl hl.1 rfl (lv_room (Nat.le_of_ble_eq_true rfl)) dX4_marketRate_10 ⟨Nat.le_of_ble_eq_true rfl, Nat.le_of_ble_eq_true rfl⟩) hS (fun r10 u10 H locs hp10 hM hS => ?_)
  have hM : Hm G M H := hM
  have hp10 : r10 = al1 (sp + pt * (la - to)) := hp10
  subst hp10
  exact (r_i hx hb hr hlocks hS (v := al1 (sp + pt * (la - to))) () rfl hM (Nat.le_of_ble_eq_true rfl) (Nat.le_of_ble_eq_true rfl) dX4_marketRate_13)
set_option maxHeartbeats 4000000 in
set_option maxRecDepth 100000 in
theorem c_X4_gainAt (l : Launch) (G : Gx) (M : Mp) (a cu cy : Nat) (bu lf ag fi la : Int32) (nu sp pt : Int32) (mr : Int32) (fa : M a = some (.inr (4, [.ref cu, .ref cy, .int bu, .int lf, .int ag, .int fi, .int la]))) (fc : M cy = some (.inr (2, [.int nu, .int sp, .int pt]))) : Met l yX4_gainAt wsX4_gainAt ({ frames := 1, cells := 0, slots := 0, locals := 21 }) (Cv G M [.ref a, .int mr]) (va_Ql (S := Unit) (fun r _ => r = gn bu lf ag mr) (Bm G (fun _ => M)) (AG G)) (0) (0) (AG G) := by
  refine m_met [.ref a, .int mr] [(0, .ref a), (1, .int mr)] (by decide) rfl rfl (Nat.le_of_ble_eq_true rfl) ?_
  intro p e s m below meth c ls hx hb hr hml hown hts hlocks hin hC hM hl hS
  refine lv_aload_n hx hb dX4_gainAt_0 rfl (lv_at hl 0 rfl) ?_
  refine m_get (ci := 4) (v := .int lf) (C := RX4) (T := TX4) (N := 7) (a := a) hx hb hts (by decide +kernel) hown hC hM fa rfl 3 (by decide) (hts (.fieldLink RX4 23 "Forwardroll$Deal" "amountLeft" "I") (by decide +kernel)) (fun _ h9 => h9) rfl dX4_gainAt_1 ?_
  refine lv_iload_n hx hb dX4_gainAt_4 rfl (lv_at hl 1 rfl) ?_
  refine k_l (va_runSN (As := [.int lf, .int mr]) (rest := []) ⟨hx, hb, hml, hown, hts⟩ (c_X5_homeAmount l G M lf mr) ⟨va_cnB 2 hts gX4_gainAt_X5_homeAmount_n58 rfl rfl rfl (hC.w 17 rfl) (hts (.initialized RX5) (by decide +kernel)) (by decide +kernel) ⟨Nat.le_of_ble_eq_true rfl, Nat.le_of_ble_eq_true rfl⟩, hts (.static yX5_homeAmount) (by decide +kernel), trivial⟩ (preS_of hC hS hM) rfl rfl hl.1 rfl (lv_room (Nat.le_of_ble_eq_true rfl)) dX4_gainAt_5 ⟨Nat.le_of_ble_eq_true rfl, Nat.le_of_ble_eq_true rfl⟩) hS (fun r5 u5 H locs hp5 hM hS => ?_)
  have hM : Hm G M H := hM
  have hp5 : r5 = hom lf mr := hp5
  subst hp5
  refine lv_aload_n hx hb dX4_gainAt_8 rfl (lv_at hl 0 rfl) ?_
  refine m_get (ci := 4) (v := .int lf) (C := RX4) (T := TX4) (N := 7) (a := a) hx hb hts (by decide +kernel) hown hC hM fa rfl 3 (by decide) (hts (.fieldLink RX4 23 "Forwardroll$Deal" "amountLeft" "I") (by decide +kernel)) (fun _ h9 => h9) rfl dX4_gainAt_9 ?_
  refine lv_aload_n hx hb dX4_gainAt_12 rfl (lv_at hl 0 rfl) ?_
  refine m_get (ci := 4) (v := .int ag) (C := RX4) (T := TX4) (N := 7) (a := a) hx hb hts (by decide +kernel) hown hC hM fa rfl 4 (by decide) (hts (.fieldLink RX4 27 "Forwardroll$Deal" "agreedRate" "I") (by decide +kernel)) (fun _ h9 => h9) rfl dX4_gainAt_13 ?_
  refine k_l (va_runSN (As := [.int lf, .int ag]) (rest := [.long (hom lf mr)]) ⟨hx, hb, hml, hown, hts⟩ (c_X5_homeAmount l G M lf ag) ⟨va_cnB 2 hts gX4_gainAt_X5_homeAmount_n58 rfl rfl rfl (hC.w 17 rfl) (hts (.initialized RX5) (by decide +kernel)) (by decide +kernel) ⟨Nat.le_of_ble_eq_true rfl, Nat.le_of_ble_eq_true rfl⟩, hts (.static yX5_homeAmount) (by decide +kernel), trivial⟩ (preS_of hC hS hM) rfl rfl hl.1 rfl (lv_room (Nat.le_of_ble_eq_true rfl)) dX4_gainAt_16 ⟨Nat.le_of_ble_eq_true rfl, Nat.le_of_ble_eq_true rfl⟩) hS (fun r16 u16 H locs hp16 hM hS => ?_)
  have hM : Hm G M H := hM
  have hp16 : r16 = hom lf ag := hp16
  subst hp16
  refine lv_lsub hx hb dX4_gainAt_19 ?_
  refine lv_lstore_n (lv' := [(2, .long ((hom lf mr) - (hom lf ag))), (0, .ref a), (1, .int mr)]) hx hb dX4_gainAt_20 rfl hl (by decide) rfl (fun ls hl => ?_)
  refine lv_aload_n hx hb dX4_gainAt_21 rfl (lv_at hl 1 rfl) ?_
  refine m_get (ci := 4) (v := .int bu) (C := RX4) (T := TX4) (N := 7) (a := a) hx hb hts (by decide +kernel) hown hC hM fa rfl 2 (by decide) (hts (.fieldLink RX4 19 "Forwardroll$Deal" "buys" "Z") (by decide +kernel)) (fun _ h9 => h9) rfl dX4_gainAt_22 ?_
  refine lv_if_eq (tgt := 32) hx hb dX4_gainAt_25 (by decide) (fun c_25 => ?_) (fun c_25 => ?_)
  · refine lv_lload_n hx hb dX4_gainAt_32 rfl (lv_at hl 0 rfl) ?_
    refine lv_lneg hx hb dX4_gainAt_33 ?_
    exact (r_l hx hb hr hlocks hS (v := (-((hom lf mr) - (hom lf ag)))) () (by unfold gn; rw [if_pos c_25]) hM (Nat.le_of_ble_eq_true rfl) (Nat.le_of_ble_eq_true rfl) dX4_gainAt_34)
  · refine lv_lload_n hx hb dX4_gainAt_28 rfl (lv_at hl 0 rfl) ?_
    refine lv_goto (tgt := 34) hx hb dX4_gainAt_29 (by decide) ?_
    exact (r_l hx hb hr hlocks hS (v := ((hom lf mr) - (hom lf ag))) () (by unfold gn; rw [if_neg c_25]) hM (Nat.le_of_ble_eq_true rfl) (Nat.le_of_ble_eq_true rfl) dX4_gainAt_34)
set_option maxHeartbeats 4000000 in
set_option maxRecDepth 100000 in
theorem c_X4_marketGain (l : Launch) (G : Gx) (M : Mp) (a cu cy : Nat) (bu lf ag fi la : Int32) (nu sp pt : Int32) (to : Int32) (fa : M a = some (.inr (4, [.ref cu, .ref cy, .int bu, .int lf, .int ag, .int fi, .int la]))) (fc : M cy = some (.inr (2, [.int nu, .int sp, .int pt]))) : Met l yX4_marketGain wsX4_marketGain ({ frames := 4, cells := 0, slots := 0, locals := 87 }) (Cv G M [.ref a, .int to]) (va_Ql (S := Unit) (fun r _ => r = gn bu lf ag (al1 (sp + pt * (la - to)))) (Bm G (fun _ => M)) (AG G)) (0) (0) (AG G) := by
  refine m_met [.ref a, .int to] [(0, .ref a), (1, .int to)] (by decide) rfl rfl (Nat.le_of_ble_eq_true rfl) ?_
  intro p e s m below meth c ls hx hb hr hml hown hts hlocks hin hC hM hl hS
  refine lv_aload_n hx hb dX4_marketGain_0 rfl (lv_at hl 0 rfl) ?_
  refine lv_aload_n hx hb dX4_marketGain_1 rfl (lv_at hl 0 rfl) ?_
  refine lv_iload_n hx hb dX4_marketGain_2 rfl (lv_at hl 1 rfl) ?_
  refine k_i (va_runV (As := [.int to]) (rest := [.ref a]) ⟨hx, hb, hml, hown, hts⟩ (c_X4_marketRate l G M a cu cy bu lf ag fi la nu sp pt to fa fc) (cwV 1 hts gX4_marketGain_X4_marketRate rfl rfl rfl (by decide +kernel) ⟨Nat.le_of_ble_eq_true rfl, Nat.le_of_ble_eq_true rfl⟩) (preV_of hC hS hM fa rfl) rfl rfl hl.1 rfl (lv_room (Nat.le_of_ble_eq_true rfl)) dX4_marketGain_3 ⟨Nat.le_of_ble_eq_true rfl, Nat.le_of_ble_eq_true rfl⟩) hS (fun r3 u3 H locs hp3 hM hS => ?_)
  have hM : Hm G M H := hM
  have hp3 : r3 = al1 (sp + pt * (la - to)) := hp3
  subst hp3
  refine k_l (va_runV (As := [.int (al1 (sp + pt * (la - to)))]) (rest := []) ⟨hx, hb, hml, hown, hts⟩ (c_X4_gainAt l G M a cu cy bu lf ag fi la nu sp pt (al1 (sp + pt * (la - to))) fa fc) (cwV 1 hts gX4_marketGain_X4_gainAt rfl rfl rfl (by decide +kernel) ⟨Nat.le_of_ble_eq_true rfl, Nat.le_of_ble_eq_true rfl⟩) (preV_of hC hS hM fa rfl) rfl rfl hl.1 rfl (lv_room (Nat.le_of_ble_eq_true rfl)) dX4_marketGain_6 ⟨Nat.le_of_ble_eq_true rfl, Nat.le_of_ble_eq_true rfl⟩) hS (fun r6 u6 H locs hp6 hM hS => ?_)
  have hM : Hm G M H := hM
  have hp6 : r6 = gn bu lf ag (al1 (sp + pt * (la - to))) := hp6
  subst hp6
  exact (r_l hx hb hr hlocks hS (v := gn bu lf ag (al1 (sp + pt * (la - to)))) () rfl hM (Nat.le_of_ble_eq_true rfl) (Nat.le_of_ble_eq_true rfl) dX4_marketGain_9)
set_option maxHeartbeats 4000000 in
set_option maxRecDepth 100000 in
theorem c_X4_shiftedLoss (l : Launch) (G : Gx) (M : Mp) (a cu cy : Nat) (bu lf ag fi la : Int32) (nu sp pt : Int32) (to sh : Int32) (fa : M a = some (.inr (4, [.ref cu, .ref cy, .int bu, .int lf, .int ag, .int fi, .int la]))) (fc : M cy = some (.inr (2, [.int nu, .int sp, .int pt]))) : Met l yX4_shiftedLoss wsX4_shiftedLoss ({ frames := 4, cells := 0, slots := 0, locals := 87 }) (Cv G M [.ref a, .int to, .int sh]) (va_Ql (S := Unit) (fun r _ => r = -gn bu lf ag (al1 (al1 (sp + pt * (la - to)) * (100 + sh) / 100))) (Bm G (fun _ => M)) (AG G)) (0) (0) (AG G) := by
  refine m_met [.ref a, .int to, .int sh] [(0, .ref a), (1, .int to), (2, .int sh)] (by decide) rfl rfl (Nat.le_of_ble_eq_true rfl) ?_
  intro p e s m below meth c ls hx hb hr hml hown hts hlocks hin hC hM hl hS
  refine lv_aload_n hx hb dX4_shiftedLoss_0 rfl (lv_at hl 0 rfl) ?_
  refine lv_iload_n hx hb dX4_shiftedLoss_1 rfl (lv_at hl 1 rfl) ?_
  refine k_i (va_runV (As := [.int to]) (rest := []) ⟨hx, hb, hml, hown, hts⟩ (c_X4_marketRate l G M a cu cy bu lf ag fi la nu sp pt to fa fc) (cwV 1 hts gX4_shiftedLoss_X4_marketRate rfl rfl rfl (by decide +kernel) ⟨Nat.le_of_ble_eq_true rfl, Nat.le_of_ble_eq_true rfl⟩) (preV_of hC hS hM fa rfl) rfl rfl hl.1 rfl (lv_room (Nat.le_of_ble_eq_true rfl)) dX4_shiftedLoss_2 ⟨Nat.le_of_ble_eq_true rfl, Nat.le_of_ble_eq_true rfl⟩) hS (fun r2 u2 H locs hp2 hM hS => ?_)
  have hM : Hm G M H := hM
  have hp2 : r2 = al1 (sp + pt * (la - to)) := hp2
  subst hp2
  refine lv_bipush (v := 100) hx hb dX4_shiftedLoss_5 (by decide) ?_
  refine lv_iload_n hx hb dX4_shiftedLoss_7 rfl (lv_at hl 2 rfl) ?_
  refine lv_iadd hx hb dX4_shiftedLoss_8 ?_
  refine lv_imul hx hb dX4_shiftedLoss_9 ?_
  refine lv_bipush (v := 100) hx hb dX4_shiftedLoss_10 (by decide) ?_
  refine lv_idiv hx hb dX4_shiftedLoss_12 (by decide) ?_
  refine lv_istore_n (lv' := [(3, .int (((al1 (sp + pt * (la - to))) * (100 + sh)) / 100)), (0, .ref a), (1, .int to), (2, .int sh)]) hx hb dX4_shiftedLoss_13 rfl hl (by decide) rfl (fun ls hl => ?_)
  refine lv_aload_n hx hb dX4_shiftedLoss_14 rfl (lv_at hl 1 rfl) ?_
  refine lv_iconst (v := 1) hx hb dX4_shiftedLoss_15 (by decide) ?_
  refine lv_iload_n hx hb dX4_shiftedLoss_16 rfl (lv_at hl 0 rfl) ?_
  refine va_mmax (own := RX4) hx hb (hml.trans hl.1.symm) hown (hts (.methodLink RX4 49 Lib.Math.max.name) (by decide +kernel)) (hts (.static Lib.Math.max.name) (by decide +kernel)) (hts (.initialized "java/lang/Math") (by decide +kernel)) (hts (.code Lib.Math.max.name Lib.Math.max.code 2 (some .int)) (by decide +kernel)) (Nat.le_of_ble_eq_true rfl) (Nat.le_of_ble_eq_true rfl) (Nat.le_of_ble_eq_true rfl) (Nat.le_of_ble_eq_true rfl) dX4_shiftedLoss_17 ?_
  refine k_l (va_runV (As := [.int (if 1 < (((al1 (sp + pt * (la - to))) * (100 + sh)) / 100) then (((al1 (sp + pt * (la - to))) * (100 + sh)) / 100) else 1)]) (rest := []) ⟨hx, hb, hml, hown, hts⟩ (c_X4_gainAt l G M a cu cy bu lf ag fi la nu sp pt (if 1 < (((al1 (sp + pt * (la - to))) * (100 + sh)) / 100) then (((al1 (sp + pt * (la - to))) * (100 + sh)) / 100) else 1) fa fc) (cwV 1 hts gX4_shiftedLoss_X4_gainAt rfl rfl rfl (by decide +kernel) ⟨Nat.le_of_ble_eq_true rfl, Nat.le_of_ble_eq_true rfl⟩) (preV_of hC hS hM fa rfl) rfl rfl hl.1 rfl (lv_room (Nat.le_of_ble_eq_true rfl)) dX4_shiftedLoss_20 ⟨Nat.le_of_ble_eq_true rfl, Nat.le_of_ble_eq_true rfl⟩) hS (fun r20 u20 H locs hp20 hM hS => ?_)
  have hM : Hm G M H := hM
  have hp20 : r20 = gn bu lf ag (if 1 < (((al1 (sp + pt * (la - to))) * (100 + sh)) / 100) then (((al1 (sp + pt * (la - to))) * (100 + sh)) / 100) else 1) := hp20
  subst hp20
  refine lv_lneg hx hb dX4_shiftedLoss_23 ?_
  exact (r_l hx hb hr hlocks hS (v := (-(gn bu lf ag (if 1 < (((al1 (sp + pt * (la - to))) * (100 + sh)) / 100) then (((al1 (sp + pt * (la - to))) * (100 + sh)) / 100) else 1)))) () (by rw [mx1]) hM (Nat.le_of_ble_eq_true rfl) (Nat.le_of_ble_eq_true rfl) dX4_shiftedLoss_24)
set_option maxHeartbeats 4000000 in
set_option maxRecDepth 100000 in
theorem c_X4_drawingRate (l : Launch) (G : Gx) (M : Mp) (a cu cy : Nat) (bu lf ag fi la : Int32) (nu sp pt : Int32) (to : Int32) (fa : M a = some (.inr (4, [.ref cu, .ref cy, .int bu, .int lf, .int ag, .int fi, .int la]))) (fc : M cy = some (.inr (2, [.int nu, .int sp, .int pt]))) : Met l yX4_drawingRate wsX4_drawingRate ({ frames := 2, cells := 0, slots := 0, locals := 45 }) (Cv G M [.ref a, .int to]) (va_Qi (S := Unit) (fun r _ => r = if to < fi then al1 (ag + pt * (to - fi)) else ag) (Bm G (fun _ => M)) (AG G)) (0) (0) (AG G) := by
  refine m_met [.ref a, .int to] [(0, .ref a), (1, .int to)] (by decide) rfl rfl (Nat.le_of_ble_eq_true rfl) ?_
  intro p e s m below meth c ls hx hb hr hml hown hts hlocks hin hC hM hl hS
  refine lv_iload_n hx hb dX4_drawingRate_0 rfl (lv_at hl 1 rfl) ?_
  refine lv_aload_n hx hb dX4_drawingRate_1 rfl (lv_at hl 0 rfl) ?_
  refine m_get (ci := 4) (v := .int fi) (C := RX4) (T := TX4) (N := 7) (a := a) hx hb hts (by decide +kernel) hown hC hM fa rfl 5 (by decide) (hts (.fieldLink RX4 30 "Forwardroll$Deal" "firstDay" "I") (by decide +kernel)) (fun _ h9 => h9) rfl dX4_drawingRate_2 ?_
  refine lv_icmp_ge (tgt := 28) hx hb dX4_drawingRate_5 (by decide) (fun c_5 => ?_) (fun c_5 => ?_)
  · refine lv_aload_n hx hb dX4_drawingRate_28 rfl (lv_at hl 0 rfl) ?_
    refine m_get (ci := 4) (v := .int ag) (C := RX4) (T := TX4) (N := 7) (a := a) hx hb hts (by decide +kernel) hown hC hM fa rfl 4 (by decide) (hts (.fieldLink RX4 27 "Forwardroll$Deal" "agreedRate" "I") (by decide +kernel)) (fun _ h9 => h9) rfl dX4_drawingRate_29 ?_
    exact (r_i hx hb hr hlocks hS (v := ag) () (by rw [if_neg (Int32.not_lt.mpr c_5)]) hM (Nat.le_of_ble_eq_true rfl) (Nat.le_of_ble_eq_true rfl) dX4_drawingRate_32)
  · refine lv_aload_n hx hb dX4_drawingRate_8 rfl (lv_at hl 0 rfl) ?_
    refine m_get (ci := 4) (v := .ref cy) (C := RX4) (T := TX4) (N := 7) (a := a) hx hb hts (by decide +kernel) hown hC hM fa rfl 1 (by decide) (hts (.fieldLink RX4 15 "Forwardroll$Deal" "currency" "LForwardroll$Currency;") (by decide +kernel)) (fun _ h9 => h9) rfl dX4_drawingRate_9 ?_
    refine lv_aload_n hx hb dX4_drawingRate_12 rfl (lv_at hl 0 rfl) ?_
    refine m_get (ci := 4) (v := .int ag) (C := RX4) (T := TX4) (N := 7) (a := a) hx hb hts (by decide +kernel) hown hC hM fa rfl 4 (by decide) (hts (.fieldLink RX4 27 "Forwardroll$Deal" "agreedRate" "I") (by decide +kernel)) (fun _ h9 => h9) rfl dX4_drawingRate_13 ?_
    refine lv_iload_n hx hb dX4_drawingRate_16 rfl (lv_at hl 1 rfl) ?_
    refine lv_aload_n hx hb dX4_drawingRate_17 rfl (lv_at hl 0 rfl) ?_
    refine m_get (ci := 4) (v := .int fi) (C := RX4) (T := TX4) (N := 7) (a := a) hx hb hts (by decide +kernel) hown hC hM fa rfl 5 (by decide) (hts (.fieldLink RX4 30 "Forwardroll$Deal" "firstDay" "I") (by decide +kernel)) (fun _ h9 => h9) rfl dX4_drawingRate_18 ?_
    refine lv_isub hx hb dX4_drawingRate_21 ?_
    refine k_i (va_runV (As := [.int ag, .int (to - fi)]) (rest := []) ⟨hx, hb, hml, hown, hts⟩ (c_X2_laterRate l G M cy nu sp pt ag (to - fi) fc) (cwV 2 hts gX4_drawingRate_X2_laterRate rfl rfl rfl (by decide +kernel) ⟨Nat.le_of_ble_eq_true rfl, Nat.le_of_ble_eq_true rfl⟩) (preV_of hC hS hM fc rfl) rfl rfl hl.1 rfl (lv_room (Nat.le_of_ble_eq_true rfl)) dX4_drawingRate_22 ⟨Nat.le_of_ble_eq_true rfl, Nat.le_of_ble_eq_true rfl⟩) hS (fun r22 u22 H locs hp22 hM hS => ?_)
    have hM : Hm G M H := hM
    have hp22 : r22 = al1 (ag + pt * (to - fi)) := hp22
    subst hp22
    refine lv_goto (tgt := 32) hx hb dX4_drawingRate_25 (by decide) ?_
    exact (r_i hx hb hr hlocks hS (v := al1 (ag + pt * (to - fi))) () (by rw [if_pos (Int32.not_le.mp c_5)]) hM (Nat.le_of_ble_eq_true rfl) (Nat.le_of_ble_eq_true rfl) dX4_drawingRate_32)
set_option maxHeartbeats 4000000 in
set_option maxRecDepth 100000 in
theorem c_X4_moveWindow (l : Launch) (G : Gx) (M : Mp) (a cu cy : Nat) (bu lf ag fi la : Int32) (da : Int32) (fa : M a = some (.inr (4, [.ref cu, .ref cy, .int bu, .int lf, .int ag, .int fi, .int la]))) : Met l yX4_moveWindow wsX4_moveWindow ({ frames := 0, cells := 0, slots := 0, locals := 0 }) (Cv G M [.ref a, .int da]) (va_Qv (S := Unit) (fun _ => True) (Bm G (fun _ => va_up M a (some (.inr (4, [.ref cu, .ref cy, .int bu, .int lf, .int ag, .int la, .int (la + da)]))))) (AG G)) (0) (0) (AG G) := by
  refine m_met [.ref a, .int da] [(0, .ref a), (1, .int da)] (by decide) rfl rfl (Nat.le_of_ble_eq_true rfl) ?_
  intro p e s m below meth c ls hx hb hr hml hown hts hlocks hin hC hM hl hS
  refine lv_aload_n hx hb dX4_moveWindow_0 rfl (lv_at hl 0 rfl) ?_
  refine lv_aload_n hx hb dX4_moveWindow_1 rfl (lv_at hl 0 rfl) ?_
  refine m_get (ci := 4) (v := .int la) (C := RX4) (T := TX4) (N := 7) (a := a) hx hb hts (by decide +kernel) hown hC hM fa rfl 6 (by decide) (hts (.fieldLink RX4 33 "Forwardroll$Deal" "lastDay" "I") (by decide +kernel)) (fun _ h9 => h9) rfl dX4_moveWindow_2 ?_
  refine m_put (host := "") (ci := 4) (v := .int la) (ty := .int) (C := RX4) (T := TX4) (N := 7) (a := a) hx hb hts (by decide +kernel) tyX4 tyX4_ok nmX4 hown hC hM hS fa rfl 5 (by decide) (hts (.fieldLink RX4 30 "Forwardroll$Deal" "firstDay" "I") (by decide +kernel)) (fun _ h9 => h9) rfl (by decide +kernel) rfl rfl (Nat.le_of_ble_eq_true rfl) dX4_moveWindow_5 (fun H locs hM hS => ?_)
  have hM : Hm G (va_up M a (some (.inr (4, [.ref cu, .ref cy, .int bu, .int lf, .int ag, .int la, .int la])))) H := hM
  have f5_2 : (va_up M a (some (.inr (4, [.ref cu, .ref cy, .int bu, .int lf, .int ag, .int la, .int la])))) a = some (.inr (4, [.ref cu, .ref cy, .int bu, .int lf, .int ag, .int la, .int la])) := up_eq
  refine lv_aload_n hx hb dX4_moveWindow_8 rfl (lv_at hl 0 rfl) ?_
  refine lv_dup hx hb dX4_moveWindow_9 rfl ?_
  refine m_get (ci := 4) (v := .int la) (C := RX4) (T := TX4) (N := 7) (a := a) hx hb hts (by decide +kernel) hown hC hM f5_2 rfl 6 (by decide) (hts (.fieldLink RX4 33 "Forwardroll$Deal" "lastDay" "I") (by decide +kernel)) (fun _ h9 => h9) rfl dX4_moveWindow_10 ?_
  refine lv_iload_n hx hb dX4_moveWindow_13 rfl (lv_at hl 1 rfl) ?_
  refine lv_iadd hx hb dX4_moveWindow_14 ?_
  refine m_put (host := "") (ci := 4) (v := .int (la + da)) (ty := .int) (C := RX4) (T := TX4) (N := 7) (a := a) hx hb hts (by decide +kernel) tyX4 tyX4_ok nmX4 hown hC hM hS f5_2 rfl 6 (by decide) (hts (.fieldLink RX4 33 "Forwardroll$Deal" "lastDay" "I") (by decide +kernel)) (fun _ h9 => h9) rfl (by decide +kernel) rfl rfl (Nat.le_of_ble_eq_true rfl) dX4_moveWindow_15 (fun H locs hM hS => ?_)
  have hM : Hm G (va_up M a (some (.inr (4, [.ref cu, .ref cy, .int bu, .int lf, .int ag, .int la, .int (la + da)])))) H := up2 ▸ hM
  have f15_4 : (va_up M a (some (.inr (4, [.ref cu, .ref cy, .int bu, .int lf, .int ag, .int la, .int (la + da)])))) a = some (.inr (4, [.ref cu, .ref cy, .int bu, .int lf, .int ag, .int la, .int (la + da)])) := up_eq
  exact (r_v hx hb hr hlocks hS () trivial hM (Nat.le_of_ble_eq_true rfl) (Nat.le_of_ble_eq_true rfl) dX4_moveWindow_18)
end
section
set_option maxHeartbeats 4000000 in
set_option maxRecDepth 100000 in
theorem c_X0_amountOf (l : Launch) (G : Gx) (M : Mp) (a b : Nat) (f : Nat → Int64) (k : Int32) (fa : M a = some (.inr (0, [.ref b]))) (fb : M b = some (.inl (G.2.1 1, 5, .inr (.inl f)))) : Met l yX0_amountOf wsX0_amountOf ({ frames := 1, cells := 0, slots := 0, locals := 21 }) (Cv G M [.ref a, .int k]) (va_Ql (S := Unit) (fun r _ => r = rd f k 5) (Bm G (fun _ => M)) (AG G)) (0) (0) (AG G) := by
  refine m_met [.ref a, .int k] [(0, .ref a), (1, .int k)] (by decide) rfl rfl (Nat.le_of_ble_eq_true rfl) ?_
  intro p e s m below meth c ls hx hb hr hml hown hts hlocks hin hC hM hl hS
  refine lv_iload_n hx hb dX0_amountOf_0 rfl (lv_at hl 1 rfl) ?_
  refine lv_aload_n hx hb dX0_amountOf_1 rfl (lv_at hl 0 rfl) ?_
  refine m_get (ci := 0) (v := .ref b) (C := RX0) (T := TX0) (N := 1) (a := a) hx hb hts (by decide +kernel) hown hC hM fa rfl 0 (by decide) (hts (.fieldLink RX0 9 "Forwardroll$Amounts" "byMoney" "[J") (by decide +kernel)) (fun _ h9 => h9) rfl dX0_amountOf_2 ?_
  refine m_alen (a := b) hx hb hC hM 1 rfl fb (v := 5) rfl dX0_amountOf_5 ?_
  refine k_i (va_runSN (As := [.int k, .int 5]) (rest := []) ⟨hx, hb, hml, hown, hts⟩ (c_X5_isIndex l G M k 5) ⟨va_cnB 2 hts gX0_amountOf_X5_isIndex_n15 rfl rfl rfl (hC.w 19 rfl) (hts (.initialized RX5) (by decide +kernel)) (by decide +kernel) ⟨Nat.le_of_ble_eq_true rfl, Nat.le_of_ble_eq_true rfl⟩, hts (.static yX5_isIndex) (by decide +kernel), trivial⟩ (preS_of hC hS hM) rfl rfl hl.1 rfl (lv_room (Nat.le_of_ble_eq_true rfl)) dX0_amountOf_6 ⟨Nat.le_of_ble_eq_true rfl, Nat.le_of_ble_eq_true rfl⟩) hS (fun r6 u6 H locs hp6 hM hS => ?_)
  have hM : Hm G M H := hM
  have hp6 : r6 = ixb k 5 := hp6
  subst hp6
  refine lv_if_eq (tgt := 21) hx hb dX0_amountOf_9 (by decide) (fun c_9 => ?_) (fun c_9 => ?_)
  · refine lv_lconst (v := 0) hx hb dX0_amountOf_21 (by decide) ?_
    exact (r_l hx hb hr hlocks hS (v := 0) () (by unfold rd; rw [if_neg (ixb_f c_9)]) hM (Nat.le_of_ble_eq_true rfl) (Nat.le_of_ble_eq_true rfl) dX0_amountOf_22)
  · refine lv_aload_n hx hb dX0_amountOf_12 rfl (lv_at hl 0 rfl) ?_
    refine m_get (ci := 0) (v := .ref b) (C := RX0) (T := TX0) (N := 1) (a := a) hx hb hts (by decide +kernel) hown hC hM fa rfl 0 (by decide) (hts (.fieldLink RX0 9 "Forwardroll$Amounts" "byMoney" "[J") (by decide +kernel)) (fun _ h9 => h9) rfl dX0_amountOf_13 ?_
    refine lv_iload_n hx hb dX0_amountOf_16 rfl (lv_at hl 1 rfl) ?_
    refine m_lald (a := b) hx hb hC hM fb (vin_of 5 (ixb_t c_9) (by decide)) dX0_amountOf_17 ?_
    refine lv_goto (tgt := 22) hx hb dX0_amountOf_18 (by decide) ?_
    exact (r_l hx hb hr hlocks hS (v := (f k.toNatClampNeg)) () (by unfold rd; rw [if_pos (ixb_t c_9)]) hM (Nat.le_of_ble_eq_true rfl) (Nat.le_of_ble_eq_true rfl) dX0_amountOf_22)
set_option maxHeartbeats 4000000 in
set_option maxRecDepth 100000 in
theorem c_X0_add (l : Launch) (G : Gx) (M : Mp) (a b : Nat) (f : Nat → Int64) (k : Int32) (x : Int64) (fa : M a = some (.inr (0, [.ref b]))) (fb : M b = some (.inl (G.2.1 1, 5, .inr (.inl f)))) (hk : vp_in k 5) : Met l yX0_add wsX0_add ({ frames := 1, cells := 0, slots := 0, locals := 21 }) (Cv G M [.ref a, .int k, .long x]) (va_Qv (S := Unit) (fun _ => True) (Bm G (fun _ => va_up M b (some (.inl (G.2.1 1, 5, .inr (.inl (vp_updL f k.toNatClampNeg (f k.toNatClampNeg + x)))))))) (AG G)) (0) (0) (AG G) := by
  refine m_met [.ref a, .int k, .long x] [(0, .ref a), (1, .int k), (2, .long x)] (by decide) rfl rfl (Nat.le_of_ble_eq_true rfl) ?_
  intro p e s m below meth c ls hx hb hr hml hown hts hlocks hin hC hM hl hS
  refine lv_iload_n hx hb dX0_add_0 rfl (lv_at hl 1 rfl) ?_
  refine lv_aload_n hx hb dX0_add_1 rfl (lv_at hl 0 rfl) ?_
  refine m_get (ci := 0) (v := .ref b) (C := RX0) (T := TX0) (N := 1) (a := a) hx hb hts (by decide +kernel) hown hC hM fa rfl 0 (by decide) (hts (.fieldLink RX0 9 "Forwardroll$Amounts" "byMoney" "[J") (by decide +kernel)) (fun _ h9 => h9) rfl dX0_add_2 ?_
  refine m_alen (a := b) hx hb hC hM 1 rfl fb (v := 5) rfl dX0_add_5 ?_
  refine k_i (va_runSN (As := [.int k, .int 5]) (rest := []) ⟨hx, hb, hml, hown, hts⟩ (c_X5_isIndex l G M k 5) ⟨va_cnB 2 hts gX0_add_X5_isIndex_n15 rfl rfl rfl (hC.w 19 rfl) (hts (.initialized RX5) (by decide +kernel)) (by decide +kernel) ⟨Nat.le_of_ble_eq_true rfl, Nat.le_of_ble_eq_true rfl⟩, hts (.static yX5_isIndex) (by decide +kernel), trivial⟩ (preS_of hC hS hM) rfl rfl hl.1 rfl (lv_room (Nat.le_of_ble_eq_true rfl)) dX0_add_6 ⟨Nat.le_of_ble_eq_true rfl, Nat.le_of_ble_eq_true rfl⟩) hS (fun r6 u6 H locs hp6 hM hS => ?_)
  have hM : Hm G M H := hM
  have hp6 : r6 = ixb k 5 := hp6
  subst hp6
  refine lv_if_eq (tgt := 22) hx hb dX0_add_9 (by decide) (fun c_9 => ?_) (fun c_9 => ?_)
  · exact absurd (of_vin 5 hk (by decide)) (ixb_f c_9)
  · refine lv_aload_n hx hb dX0_add_12 rfl (lv_at hl 0 rfl) ?_
    refine m_get (ci := 0) (v := .ref b) (C := RX0) (T := TX0) (N := 1) (a := a) hx hb hts (by decide +kernel) hown hC hM fa rfl 0 (by decide) (hts (.fieldLink RX0 9 "Forwardroll$Amounts" "byMoney" "[J") (by decide +kernel)) (fun _ h9 => h9) rfl dX0_add_13 ?_
    refine lv_iload_n hx hb dX0_add_16 rfl (lv_at hl 1 rfl) ?_
    refine lv_dup2_11 hx hb dX0_add_17 rfl rfl ?_
    refine m_lald (a := b) hx hb hC hM fb (vin_of 5 (ixb_t c_9) (by decide)) dX0_add_18 ?_
    refine lv_lload_n hx hb dX0_add_19 rfl (lv_at hl 2 rfl) ?_
    refine lv_ladd hx hb dX0_add_20 ?_
    refine m_last (a := b) hx hb hC hM hS fb (vin_of 5 (ixb_t c_9) (by decide)) dX0_add_21 (fun H locs hM hS => ?_)
    have hM : Hm G (va_up M b (some (.inl (G.2.1 1, 5, .inr (.inl (vp_updL f k.toNatClampNeg ((f k.toNatClampNeg) + x))))))) H := hM
    have f21_3 : (va_up M b (some (.inl (G.2.1 1, 5, .inr (.inl (vp_updL f k.toNatClampNeg ((f k.toNatClampNeg) + x))))))) a = some (.inr (0, [.ref b])) := (up_ne (fun h9 => absurd (Eq.trans (Eq.trans (Eq.symm fa) (congrArg M h9)) fb) (by simp))).trans fa
    have f21_4 : (va_up M b (some (.inl (G.2.1 1, 5, .inr (.inl (vp_updL f k.toNatClampNeg ((f k.toNatClampNeg) + x))))))) b = some (.inl (G.2.1 1, 5, .inr (.inl (vp_updL f k.toNatClampNeg ((f k.toNatClampNeg) + x))))) := up_eq
    exact (r_v hx hb hr hlocks hS () trivial hM (Nat.le_of_ble_eq_true rfl) (Nat.le_of_ble_eq_true rfl) dX0_add_22)
set_option maxHeartbeats 4000000 in
set_option maxRecDepth 100000 in
theorem c_X0_init (l : Launch) (G : Gx) (M : Mp) (a : Nat) (fa : M a = some (.inr (0, [.null]))) : Met l yX0_init wsX0_init ({ frames := 1, cells := 1, slots := 5, locals := 20 }) (Cv G M [.ref a]) (va_Qv (S := Nat) (fun q => M q = none) (Bm G (fun q => va_up (va_up M q (some (.inl (G.2.1 1, 5, .inr (.inl (fun _ => 0)))))) a (some (.inr (0, [.ref q]))))) (AG G)) (1) (5) (AG G) := by
  refine m_met [.ref a] [(0, .ref a)] (by decide) rfl rfl (Nat.le_of_ble_eq_true rfl) ?_
  intro p e s m below meth c ls hx hb hr hml hown hts hlocks hin hC hM hl hS
  refine lv_aload_n hx hb dX0_init_0 rfl (lv_at hl 0 rfl) ?_
  refine W.objInit hx hb hown (hts (.methodLink RX0 3 objectInit) (by decide +kernel)) (hts (.instanceMethod objectInit) (by decide +kernel)) (hts (.code objectInit ⟨#[0xb1]⟩ 1 none) (by decide +kernel)) rfl (by rw [hml]; exact hl.1) rfl dX0_init_1 (Nat.le_of_ble_eq_true rfl) (Nat.le_of_ble_eq_true rfl) ?_
  refine W.eq (g2 := F0 m 4 ls []) rfl ?_
  refine lv_aload_n hx hb dX0_init_4 rfl (lv_at hl 0 rfl) ?_
  refine lv_iconst (v := 5) hx hb dX0_init_5 (by decide) ?_
  refine m_newa (atype := .long) (ty := .long) (a0 := (5, .inr (.inl (fun _ => 0)))) (N' := 5) hx hb (hts (.arrayClass .long) (by decide +kernel)) rfl 1 hC rfl hM hS hC.1 (fun _ => rfl) (by decide) (by decide) (Nat.le_of_ble_eq_true rfl) (Nat.le_of_ble_eq_true rfl) (Nat.le_of_ble_eq_true rfl) dX0_init_6 (fun q6 H hn6 hM hS => ?_)
  have hM : Hm G (va_up M q6 (some (.inl (G.2.1 1, 5, .inr (.inl (fun _ => 0)))))) H := hM
  have hne6_1 : a ≠ q6 := fun h9 => absurd (Eq.trans (Eq.trans (Eq.symm fa) (congrArg M h9)) hn6) (by simp)
  have f6_1 : (va_up M q6 (some (.inl (G.2.1 1, 5, .inr (.inl (fun _ => 0)))))) a = some (.inr (0, [.null])) := (up_ne hne6_1).trans fa
  have f6_q2 : (va_up M q6 (some (.inl (G.2.1 1, 5, .inr (.inl (fun _ => 0)))))) q6 = some (.inl (G.2.1 1, 5, .inr (.inl (fun _ => 0)))) := up_eq
  refine m_putF (host := "") (ci := 0) (v := .ref q6) (ty := .array .long) (C := RX0) (T := TX0) (N := 1) (a := a) hx hb hts (by decide +kernel) tyX0 tyX0_ok nmX0 hown hC hM hS f6_1 rfl 0 (by decide) (hts (.fieldLink RX0 9 "Forwardroll$Amounts" "byMoney" "[J") (by decide +kernel)) (fun _ h9 => h9) rfl hin rfl (by decide +kernel) rfl rfl (Nat.le_of_ble_eq_true rfl) dX0_init_8 (fun H locs hM hS => ?_)
  have hM : Hm G (va_up (va_up M q6 (some (.inl (G.2.1 1, 5, .inr (.inl (fun _ => 0)))))) a (some (.inr (0, [.ref q6])))) H := hM
  have f8_4 : (va_up (va_up M q6 (some (.inl (G.2.1 1, 5, .inr (.inl (fun _ => 0)))))) a (some (.inr (0, [.ref q6])))) a = some (.inr (0, [.ref q6])) := up_eq
  have f8_5 : (va_up (va_up M q6 (some (.inl (G.2.1 1, 5, .inr (.inl (fun _ => 0)))))) a (some (.inr (0, [.ref q6])))) q6 = some (.inl (G.2.1 1, 5, .inr (.inl (fun _ => 0)))) := (up_ne (fun h9 => absurd (Eq.trans (Eq.trans (Eq.symm f6_q2) (congrArg (va_up M q6 (some (.inl (G.2.1 1, 5, .inr (.inl (fun _ => 0)))))) h9)) f6_1) (by simp))).trans f6_q2
  exact (r_v hx hb hr hlocks hS q6 hn6 hM (Nat.le_of_ble_eq_true rfl) (Nat.le_of_ble_eq_true rfl) dX0_init_11)
set_option maxHeartbeats 4000000 in
set_option maxRecDepth 100000 in
theorem c_X1_init (l : Launch) (G : Gx) (M : Mp) (a : Nat) (fa : M a = some (.inr (1, [.null, .int 0]))) : Met l yX1_init wsX1_init ({ frames := 1, cells := 1, slots := 1001, locals := 20 }) (Cv G M [.ref a]) (va_Qv (S := Nat) (fun q => M q = none) (Bm G (fun q => va_up (va_up M q (some (.inl (G.2.1 2, 1001, .inl (fun _ => 0))))) a (some (.inr (1, [.ref q, .int 0]))))) (AG G)) (1) (1001) (AG G) := by
  refine m_met [.ref a] [(0, .ref a)] (by decide) rfl rfl (Nat.le_of_ble_eq_true rfl) ?_
  intro p e s m below meth c ls hx hb hr hml hown hts hlocks hin hC hM hl hS
  refine lv_aload_n hx hb dX1_init_0 rfl (lv_at hl 0 rfl) ?_
  refine W.objInit hx hb hown (hts (.methodLink RX1 3 objectInit) (by decide +kernel)) (hts (.instanceMethod objectInit) (by decide +kernel)) (hts (.code objectInit ⟨#[0xb1]⟩ 1 none) (by decide +kernel)) rfl (by rw [hml]; exact hl.1) rfl dX1_init_1 (Nat.le_of_ble_eq_true rfl) (Nat.le_of_ble_eq_true rfl) ?_
  refine W.eq (g2 := F0 m 4 ls []) rfl ?_
  refine lv_aload_n hx hb dX1_init_4 rfl (lv_at hl 0 rfl) ?_
  refine lv_sipush (v := 1001) hx hb dX1_init_5 (by decide) ?_
  refine m_newa (atype := .boolean) (ty := .boolean) (a0 := (1001, .inl (fun _ => 0))) (N' := 1001) hx hb (hts (.arrayClass .boolean) (by decide +kernel)) rfl 2 hC rfl hM hS hC.1 (fun _ => rfl) (by decide) (by decide) (Nat.le_of_ble_eq_true rfl) (Nat.le_of_ble_eq_true rfl) (Nat.le_of_ble_eq_true rfl) dX1_init_8 (fun q8 H hn8 hM hS => ?_)
  have hM : Hm G (va_up M q8 (some (.inl (G.2.1 2, 1001, .inl (fun _ => 0))))) H := hM
  have hne8_1 : a ≠ q8 := fun h9 => absurd (Eq.trans (Eq.trans (Eq.symm fa) (congrArg M h9)) hn8) (by simp)
  have f8_1 : (va_up M q8 (some (.inl (G.2.1 2, 1001, .inl (fun _ => 0))))) a = some (.inr (1, [.null, .int 0])) := (up_ne hne8_1).trans fa
  have f8_q2 : (va_up M q8 (some (.inl (G.2.1 2, 1001, .inl (fun _ => 0))))) q8 = some (.inl (G.2.1 2, 1001, .inl (fun _ => 0))) := up_eq
  refine m_putF (host := "") (ci := 1) (v := .ref q8) (ty := .array .boolean) (C := RX1) (T := TX1) (N := 2) (a := a) hx hb hts (by decide +kernel) tyX1 tyX1_ok nmX1 hown hC hM hS f8_1 rfl 0 (by decide) (hts (.fieldLink RX1 9 "Forwardroll$Calendar" "holidays" "[Z") (by decide +kernel)) (fun _ h9 => h9) rfl hin rfl (by decide +kernel) rfl rfl (Nat.le_of_ble_eq_true rfl) dX1_init_10 (fun H locs hM hS => ?_)
  have hM : Hm G (va_up (va_up M q8 (some (.inl (G.2.1 2, 1001, .inl (fun _ => 0))))) a (some (.inr (1, [.ref q8, .int 0])))) H := hM
  have f10_4 : (va_up (va_up M q8 (some (.inl (G.2.1 2, 1001, .inl (fun _ => 0))))) a (some (.inr (1, [.ref q8, .int 0])))) a = some (.inr (1, [.ref q8, .int 0])) := up_eq
  have f10_5 : (va_up (va_up M q8 (some (.inl (G.2.1 2, 1001, .inl (fun _ => 0))))) a (some (.inr (1, [.ref q8, .int 0])))) q8 = some (.inl (G.2.1 2, 1001, .inl (fun _ => 0))) := (up_ne (fun h9 => absurd (Eq.trans (Eq.trans (Eq.symm f8_q2) (congrArg (va_up M q8 (some (.inl (G.2.1 2, 1001, .inl (fun _ => 0))))) h9)) f8_1) (by simp))).trans f8_q2
  exact (r_v hx hb hr hlocks hS q8 hn8 hM (Nat.le_of_ble_eq_true rfl) (Nat.le_of_ble_eq_true rfl) dX1_init_13)
set_option maxHeartbeats 4000000 in
set_option maxRecDepth 100000 in
theorem c_X2_init (l : Launch) (G : Gx) (M : Mp) (a : Nat) (n : Int32) (fa : M a = some (.inr (2, [.int 0, .int 0, .int 0]))) : Met l yX2_init wsX2_init ({ frames := 1, cells := 0, slots := 0, locals := 20 }) (Cv G M [.ref a, .int n]) (va_Qv (S := Unit) (fun _ => True) (Bm G (fun _ => va_up M a (some (.inr (2, [.int n, .int 10000, .int 0]))))) (AG G)) (0) (0) (AG G) := by
  refine m_met [.ref a, .int n] [(0, .ref a), (1, .int n)] (by decide) rfl rfl (Nat.le_of_ble_eq_true rfl) ?_
  intro p e s m below meth c ls hx hb hr hml hown hts hlocks hin hC hM hl hS
  refine lv_aload_n hx hb dX2_init_0 rfl (lv_at hl 0 rfl) ?_
  refine W.objInit hx hb hown (hts (.methodLink RX2 3 objectInit) (by decide +kernel)) (hts (.instanceMethod objectInit) (by decide +kernel)) (hts (.code objectInit ⟨#[0xb1]⟩ 1 none) (by decide +kernel)) rfl (by rw [hml]; exact hl.1) rfl dX2_init_1 (Nat.le_of_ble_eq_true rfl) (Nat.le_of_ble_eq_true rfl) ?_
  refine W.eq (g2 := F0 m 4 ls []) rfl ?_
  refine lv_aload_n hx hb dX2_init_4 rfl (lv_at hl 0 rfl) ?_
  refine lv_sipush (v := 10000) hx hb dX2_init_5 (by decide) ?_
  refine m_put (host := "") (ci := 2) (v := .int 10000) (ty := .int) (C := RX2) (T := TX2) (N := 3) (a := a) hx hb hts (by decide +kernel) tyX2 tyX2_ok nmX2 hown hC hM hS fa rfl 1 (by decide) (hts (.fieldLink RX2 9 "Forwardroll$Currency" "spotRate" "I") (by decide +kernel)) (fun _ h9 => h9) rfl (by decide +kernel) rfl rfl (Nat.le_of_ble_eq_true rfl) dX2_init_8 (fun H locs hM hS => ?_)
  have hM : Hm G (va_up M a (some (.inr (2, [.int 0, .int 10000, .int 0])))) H := hM
  have f8_2 : (va_up M a (some (.inr (2, [.int 0, .int 10000, .int 0])))) a = some (.inr (2, [.int 0, .int 10000, .int 0])) := up_eq
  refine lv_aload_n hx hb dX2_init_11 rfl (lv_at hl 0 rfl) ?_
  refine lv_iload_n hx hb dX2_init_12 rfl (lv_at hl 1 rfl) ?_
  refine m_putF (host := "") (ci := 2) (v := .int n) (ty := .int) (C := RX2) (T := TX2) (N := 3) (a := a) hx hb hts (by decide +kernel) tyX2 tyX2_ok nmX2 hown hC hM hS f8_2 rfl 0 (by decide) (hts (.fieldLink RX2 15 "Forwardroll$Currency" "number" "I") (by decide +kernel)) (fun _ h9 => h9) rfl hin rfl (by decide +kernel) rfl rfl (Nat.le_of_ble_eq_true rfl) dX2_init_13 (fun H locs hM hS => ?_)
  have hM : Hm G (va_up M a (some (.inr (2, [.int n, .int 10000, .int 0])))) H := up2 ▸ hM
  have f13_4 : (va_up M a (some (.inr (2, [.int n, .int 10000, .int 0])))) a = some (.inr (2, [.int n, .int 10000, .int 0])) := up_eq
  exact (r_v hx hb hr hlocks hS () trivial hM (Nat.le_of_ble_eq_true rfl) (Nat.le_of_ble_eq_true rfl) dX2_init_16)
set_option maxHeartbeats 4000000 in
set_option maxRecDepth 100000 in
theorem c_X1_flipHoliday (l : Launch) (G : Gx) (M : Mp) (a b : Nat) (f : Nat → Int32) (to d : Int32) (fa : M a = some (.inr (1, [.ref b, .int to]))) (fb : M b = some (.inl (G.2.1 2, 1001, .inl f))) (hk : vp_in d 1001) : Met l yX1_flipHoliday wsX1_flipHoliday ({ frames := 1, cells := 0, slots := 0, locals := 21 }) (Cv G M [.ref a, .int d]) (va_Qi (S := Unit) (fun r _ => r = tg (f d.toNatClampNeg)) (Bm G (fun _ => va_up M b (some (.inl (G.2.1 2, 1001, .inl (upd f d.toNatClampNeg (tg (f d.toNatClampNeg)))))))) (AG G)) (0) (0) (AG G) := by
  refine m_met [.ref a, .int d] [(0, .ref a), (1, .int d)] (by decide) rfl rfl (Nat.le_of_ble_eq_true rfl) ?_
  intro p e s m below meth c ls hx hb hr hml hown hts hlocks hin hC hM hl hS
  refine lv_iload_n hx hb dX1_flipHoliday_0 rfl (lv_at hl 1 rfl) ?_
  refine lv_aload_n hx hb dX1_flipHoliday_1 rfl (lv_at hl 0 rfl) ?_
  refine m_get (ci := 1) (v := .ref b) (C := RX1) (T := TX1) (N := 2) (a := a) hx hb hts (by decide +kernel) hown hC hM fa rfl 0 (by decide) (hts (.fieldLink RX1 9 "Forwardroll$Calendar" "holidays" "[Z") (by decide +kernel)) (fun _ h9 => h9) rfl dX1_flipHoliday_2 ?_
  refine m_alen (a := b) hx hb hC hM 2 rfl fb (v := 1001) rfl dX1_flipHoliday_5 ?_
  refine k_i (va_runSN (As := [.int d, .int 1001]) (rest := []) ⟨hx, hb, hml, hown, hts⟩ (c_X5_isIndex l G M d 1001) ⟨va_cnB 2 hts gX1_flipHoliday_X5_isIndex_n15 rfl rfl rfl (hC.w 16 rfl) (hts (.initialized RX5) (by decide +kernel)) (by decide +kernel) ⟨Nat.le_of_ble_eq_true rfl, Nat.le_of_ble_eq_true rfl⟩, hts (.static yX5_isIndex) (by decide +kernel), trivial⟩ (preS_of hC hS hM) rfl rfl hl.1 rfl (lv_room (Nat.le_of_ble_eq_true rfl)) dX1_flipHoliday_6 ⟨Nat.le_of_ble_eq_true rfl, Nat.le_of_ble_eq_true rfl⟩) hS (fun r6 u6 H locs hp6 hM hS => ?_)
  have hM : Hm G M H := hM
  have hp6 : r6 = ixb d 1001 := hp6
  subst hp6
  refine lv_if_ne (tgt := 14) hx hb dX1_flipHoliday_9 (by decide) (fun c_9 => ?_) (fun c_9 => ?_)
  · refine lv_aload_n hx hb dX1_flipHoliday_14 rfl (lv_at hl 0 rfl) ?_
    refine m_get (ci := 1) (v := .ref b) (C := RX1) (T := TX1) (N := 2) (a := a) hx hb hts (by decide +kernel) hown hC hM fa rfl 0 (by decide) (hts (.fieldLink RX1 9 "Forwardroll$Calendar" "holidays" "[Z") (by decide +kernel)) (fun _ h9 => h9) rfl dX1_flipHoliday_15 ?_
    refine lv_iload_n hx hb dX1_flipHoliday_18 rfl (lv_at hl 1 rfl) ?_
    refine lv_aload_n hx hb dX1_flipHoliday_19 rfl (lv_at hl 0 rfl) ?_
    refine m_get (ci := 1) (v := .ref b) (C := RX1) (T := TX1) (N := 2) (a := a) hx hb hts (by decide +kernel) hown hC hM fa rfl 0 (by decide) (hts (.fieldLink RX1 9 "Forwardroll$Calendar" "holidays" "[Z") (by decide +kernel)) (fun _ h9 => h9) rfl dX1_flipHoliday_20 ?_
    refine lv_iload_n hx hb dX1_flipHoliday_23 rfl (lv_at hl 1 rfl) ?_
    refine m_zald (a := b) hx hb hC hM fb hk dX1_flipHoliday_24 ?_
    refine lv_if_ne (tgt := 32) hx hb dX1_flipHoliday_25 (by decide) (fun c_25 => ?_) (fun c_25 => ?_)
    · refine lv_iconst (v := 0) hx hb dX1_flipHoliday_32 (by decide) ?_
      refine m_zast (a := b) hx hb hC hM hS fb hk dX1_flipHoliday_33 (fun H locs hM hS => ?_)
      have hM : Hm G (va_up M b (some (.inl (G.2.1 2, 1001, .inl (upd f d.toNatClampNeg (vp_nar .boolean 0)))))) H := hM
      have f33_4 : (va_up M b (some (.inl (G.2.1 2, 1001, .inl (upd f d.toNatClampNeg (vp_nar .boolean 0)))))) a = some (.inr (1, [.ref b, .int to])) := (up_ne (fun h9 => absurd (Eq.trans (Eq.trans (Eq.symm fa) (congrArg M h9)) fb) (by simp))).trans fa
      have f33_5 : (va_up M b (some (.inl (G.2.1 2, 1001, .inl (upd f d.toNatClampNeg (vp_nar .boolean 0)))))) b = some (.inl (G.2.1 2, 1001, .inl (upd f d.toNatClampNeg (vp_nar .boolean 0)))) := up_eq
      refine lv_aload_n hx hb dX1_flipHoliday_34 rfl (lv_at hl 0 rfl) ?_
      refine m_get (ci := 1) (v := .ref b) (C := RX1) (T := TX1) (N := 2) (a := a) hx hb hts (by decide +kernel) hown hC hM f33_4 rfl 0 (by decide) (hts (.fieldLink RX1 9 "Forwardroll$Calendar" "holidays" "[Z") (by decide +kernel)) (fun _ h9 => h9) rfl dX1_flipHoliday_35 ?_
      refine lv_iload_n hx hb dX1_flipHoliday_38 rfl (lv_at hl 1 rfl) ?_
      refine m_zald (a := b) hx hb hC hM f33_5 hk dX1_flipHoliday_39 ?_
      have ht9 : tg (f d.toNatClampNeg) = 0 := by unfold tg; rw [if_neg c_25]
      have hM : Hm G (va_up M b (some (.inl (G.2.1 2, 1001, .inl (upd f d.toNatClampNeg (tg (f d.toNatClampNeg))))))) H := by rw [ht9]; exact hM
      exact (r_z hx hb hr hlocks hS (v := ((upd f d.toNatClampNeg (vp_nar .boolean 0)) d.toNatClampNeg)) (by rw [pk_us]; decide) () (by rw [ht9, pk_us]; decide) hM (Nat.le_of_ble_eq_true rfl) (Nat.le_of_ble_eq_true rfl) dX1_flipHoliday_40)
    · refine lv_iconst (v := 1) hx hb dX1_flipHoliday_28 (by decide) ?_
      refine lv_goto (tgt := 33) hx hb dX1_flipHoliday_29 (by decide) ?_
      refine m_zast (a := b) hx hb hC hM hS fb hk dX1_flipHoliday_33 (fun H locs hM hS => ?_)
      have hM : Hm G (va_up M b (some (.inl (G.2.1 2, 1001, .inl (upd f d.toNatClampNeg (vp_nar .boolean 1)))))) H := hM
      have f33_7 : (va_up M b (some (.inl (G.2.1 2, 1001, .inl (upd f d.toNatClampNeg (vp_nar .boolean 1)))))) a = some (.inr (1, [.ref b, .int to])) := (up_ne (fun h9 => absurd (Eq.trans (Eq.trans (Eq.symm fa) (congrArg M h9)) fb) (by simp))).trans fa
      have f33_8 : (va_up M b (some (.inl (G.2.1 2, 1001, .inl (upd f d.toNatClampNeg (vp_nar .boolean 1)))))) b = some (.inl (G.2.1 2, 1001, .inl (upd f d.toNatClampNeg (vp_nar .boolean 1)))) := up_eq
      refine lv_aload_n hx hb dX1_flipHoliday_34 rfl (lv_at hl 0 rfl) ?_
      refine m_get (ci := 1) (v := .ref b) (C := RX1) (T := TX1) (N := 2) (a := a) hx hb hts (by decide +kernel) hown hC hM f33_7 rfl 0 (by decide) (hts (.fieldLink RX1 9 "Forwardroll$Calendar" "holidays" "[Z") (by decide +kernel)) (fun _ h9 => h9) rfl dX1_flipHoliday_35 ?_
      refine lv_iload_n hx hb dX1_flipHoliday_38 rfl (lv_at hl 1 rfl) ?_
      refine m_zald (a := b) hx hb hC hM f33_8 hk dX1_flipHoliday_39 ?_
      have ht9 : tg (f d.toNatClampNeg) = 1 := by unfold tg; rw [if_pos c_25]
      have hM : Hm G (va_up M b (some (.inl (G.2.1 2, 1001, .inl (upd f d.toNatClampNeg (tg (f d.toNatClampNeg))))))) H := by rw [ht9]; exact hM
      exact (r_z hx hb hr hlocks hS (v := ((upd f d.toNatClampNeg (vp_nar .boolean 1)) d.toNatClampNeg)) (by rw [pk_us]; decide) () (by rw [ht9, pk_us]; decide) hM (Nat.le_of_ble_eq_true rfl) (Nat.le_of_ble_eq_true rfl) dX1_flipHoliday_40)
  · refine lv_iconst (v := 0) hx hb dX1_flipHoliday_12 (by decide) ?_
    exact absurd (of_vin 1001 hk (by decide)) (ixb_f c_9)
set_option maxHeartbeats 4000000 in
set_option maxRecDepth 100000 in
theorem c_X1_isBusinessDay (l : Launch) (G : Gx) (M : Mp) (a b : Nat) (f : Nat → Int32) (to d : Int32) (fa : M a = some (.inr (1, [.ref b, .int to]))) (fb : M b = some (.inl (G.2.1 2, 1001, .inl f))) : Met l yX1_isBusinessDay wsX1_isBusinessDay ({ frames := 1, cells := 0, slots := 0, locals := 21 }) (Cv G M [.ref a, .int d]) (va_Qi (S := Unit) (fun r _ => r = bus f d) (Bm G (fun _ => M)) (AG G)) (0) (0) (AG G) := by
  refine m_met [.ref a, .int d] [(0, .ref a), (1, .int d)] (by decide) rfl rfl (Nat.le_of_ble_eq_true rfl) ?_
  intro p e s m below meth c ls hx hb hr hml hown hts hlocks hin hC hM hl hS
  refine lv_iload_n hx hb dX1_isBusinessDay_0 rfl (lv_at hl 1 rfl) ?_
  refine lv_aload_n hx hb dX1_isBusinessDay_1 rfl (lv_at hl 0 rfl) ?_
  refine m_get (ci := 1) (v := .ref b) (C := RX1) (T := TX1) (N := 2) (a := a) hx hb hts (by decide +kernel) hown hC hM fa rfl 0 (by decide) (hts (.fieldLink RX1 9 "Forwardroll$Calendar" "holidays" "[Z") (by decide +kernel)) (fun _ h9 => h9) rfl dX1_isBusinessDay_2 ?_
  refine m_alen (a := b) hx hb hC hM 2 rfl fb (v := 1001) rfl dX1_isBusinessDay_5 ?_
  refine k_i (va_runSN (As := [.int d, .int 1001]) (rest := []) ⟨hx, hb, hml, hown, hts⟩ (c_X5_isIndex l G M d 1001) ⟨va_cnB 2 hts gX1_isBusinessDay_X5_isIndex_n15 rfl rfl rfl (hC.w 16 rfl) (hts (.initialized RX5) (by decide +kernel)) (by decide +kernel) ⟨Nat.le_of_ble_eq_true rfl, Nat.le_of_ble_eq_true rfl⟩, hts (.static yX5_isIndex) (by decide +kernel), trivial⟩ (preS_of hC hS hM) rfl rfl hl.1 rfl (lv_room (Nat.le_of_ble_eq_true rfl)) dX1_isBusinessDay_6 ⟨Nat.le_of_ble_eq_true rfl, Nat.le_of_ble_eq_true rfl⟩) hS (fun r6 u6 H locs hp6 hM hS => ?_)
  have hM : Hm G M H := hM
  have hp6 : r6 = ixb d 1001 := hp6
  subst hp6
  refine lv_if_eq (tgt := 25) hx hb dX1_isBusinessDay_9 (by decide) (fun c_9 => ?_) (fun c_9 => ?_)
  · refine lv_iconst (v := 0) hx hb dX1_isBusinessDay_25 (by decide) ?_
    refine lv_istore_n (lv' := [(2, .int 0), (0, .ref a), (1, .int d)]) hx hb dX1_isBusinessDay_26 rfl hl (by decide) rfl (fun ls hl => ?_)
    refine lv_iload_n hx hb dX1_isBusinessDay_27 rfl (lv_at hl 2 rfl) ?_
    refine lv_bipush (v := 7) hx hb dX1_isBusinessDay_28 (by decide) ?_
    refine lv_irem hx hb dX1_isBusinessDay_30 (by decide) ?_
    refine lv_iconst (v := 5) hx hb dX1_isBusinessDay_31 (by decide) ?_
    refine lv_icmp_ge (tgt := 43) hx hb dX1_isBusinessDay_32 (by decide) (fun c_32 => ?_) (fun c_32 => ?_)
    · refine lv_iconst (v := 0) hx hb dX1_isBusinessDay_43 (by decide) ?_
      have h9 : bus f d = 0 := by unfold bus; rw [if_neg]; exact fun z => absurd z.1 (by simpa using c_32)
      exact (r_z hx hb hr hlocks hS (v := 0) (by simp) () h9.symm hM (Nat.le_of_ble_eq_true rfl) (Nat.le_of_ble_eq_true rfl) dX1_isBusinessDay_44)
    · refine lv_iload_n hx hb dX1_isBusinessDay_35 rfl (lv_at hl 0 rfl) ?_
      refine lv_if_ne (tgt := 43) hx hb dX1_isBusinessDay_36 (by decide) (fun c_36 => False.elim (by exact absurd rfl c_36)) (fun c_36 => ?_)
      refine lv_iconst (v := 1) hx hb dX1_isBusinessDay_39 (by decide) ?_
      refine lv_goto (tgt := 44) hx hb dX1_isBusinessDay_40 (by decide) ?_
      have h9 : bus f d = 1 := by unfold bus; rw [if_pos]; exact ⟨by simpa using c_32, fun z => ixb_f c_9 z.1⟩
      exact (r_z hx hb hr hlocks hS (v := 1) (by simp) () h9.symm hM (Nat.le_of_ble_eq_true rfl) (Nat.le_of_ble_eq_true rfl) dX1_isBusinessDay_44)
  · refine lv_aload_n hx hb dX1_isBusinessDay_12 rfl (lv_at hl 0 rfl) ?_
    refine m_get (ci := 1) (v := .ref b) (C := RX1) (T := TX1) (N := 2) (a := a) hx hb hts (by decide +kernel) hown hC hM fa rfl 0 (by decide) (hts (.fieldLink RX1 9 "Forwardroll$Calendar" "holidays" "[Z") (by decide +kernel)) (fun _ h9 => h9) rfl dX1_isBusinessDay_13 ?_
    refine lv_iload_n hx hb dX1_isBusinessDay_16 rfl (lv_at hl 1 rfl) ?_
    refine m_zald (a := b) hx hb hC hM fb (vin_of 1001 (ixb_t c_9) (by decide)) dX1_isBusinessDay_17 ?_
    refine lv_if_eq (tgt := 25) hx hb dX1_isBusinessDay_18 (by decide) (fun c_18 => ?_) (fun c_18 => ?_)
    · refine lv_iconst (v := 0) hx hb dX1_isBusinessDay_25 (by decide) ?_
      refine lv_istore_n (lv' := [(2, .int 0), (0, .ref a), (1, .int d)]) hx hb dX1_isBusinessDay_26 rfl hl (by decide) rfl (fun ls hl => ?_)
      refine lv_iload_n hx hb dX1_isBusinessDay_27 rfl (lv_at hl 2 rfl) ?_
      refine lv_bipush (v := 7) hx hb dX1_isBusinessDay_28 (by decide) ?_
      refine lv_irem hx hb dX1_isBusinessDay_30 (by decide) ?_
      refine lv_iconst (v := 5) hx hb dX1_isBusinessDay_31 (by decide) ?_
      refine lv_icmp_ge (tgt := 43) hx hb dX1_isBusinessDay_32 (by decide) (fun c_32 => ?_) (fun c_32 => ?_)
      · refine lv_iconst (v := 0) hx hb dX1_isBusinessDay_43 (by decide) ?_
        have h9 : bus f d = 0 := by unfold bus; rw [if_neg]; exact fun z => absurd z.1 (by simpa using c_32)
        exact (r_z hx hb hr hlocks hS (v := 0) (by simp) () h9.symm hM (Nat.le_of_ble_eq_true rfl) (Nat.le_of_ble_eq_true rfl) dX1_isBusinessDay_44)
      · refine lv_iload_n hx hb dX1_isBusinessDay_35 rfl (lv_at hl 0 rfl) ?_
        refine lv_if_ne (tgt := 43) hx hb dX1_isBusinessDay_36 (by decide) (fun c_36 => False.elim (by exact absurd rfl c_36)) (fun c_36 => ?_)
        refine lv_iconst (v := 1) hx hb dX1_isBusinessDay_39 (by decide) ?_
        refine lv_goto (tgt := 44) hx hb dX1_isBusinessDay_40 (by decide) ?_
        have h9 : bus f d = 1 := by unfold bus; rw [if_pos]; exact ⟨by simpa using c_32, fun z => z.2 c_18⟩
        exact (r_z hx hb hr hlocks hS (v := 1) (by simp) () h9.symm hM (Nat.le_of_ble_eq_true rfl) (Nat.le_of_ble_eq_true rfl) dX1_isBusinessDay_44)
    · refine lv_iconst (v := 1) hx hb dX1_isBusinessDay_21 (by decide) ?_
      refine lv_goto (tgt := 26) hx hb dX1_isBusinessDay_22 (by decide) ?_
      refine lv_istore_n (lv' := [(2, .int 1), (0, .ref a), (1, .int d)]) hx hb dX1_isBusinessDay_26 rfl hl (by decide) rfl (fun ls hl => ?_)
      refine lv_iload_n hx hb dX1_isBusinessDay_27 rfl (lv_at hl 2 rfl) ?_
      refine lv_bipush (v := 7) hx hb dX1_isBusinessDay_28 (by decide) ?_
      refine lv_irem hx hb dX1_isBusinessDay_30 (by decide) ?_
      refine lv_iconst (v := 5) hx hb dX1_isBusinessDay_31 (by decide) ?_
      refine lv_icmp_ge (tgt := 43) hx hb dX1_isBusinessDay_32 (by decide) (fun c_32 => ?_) (fun c_32 => ?_)
      · refine lv_iconst (v := 0) hx hb dX1_isBusinessDay_43 (by decide) ?_
        have h9 : bus f d = 0 := by unfold bus; rw [if_neg]; exact fun z => absurd z.1 (by simpa using c_32)
        exact (r_z hx hb hr hlocks hS (v := 0) (by simp) () h9.symm hM (Nat.le_of_ble_eq_true rfl) (Nat.le_of_ble_eq_true rfl) dX1_isBusinessDay_44)
      · refine lv_iload_n hx hb dX1_isBusinessDay_35 rfl (lv_at hl 0 rfl) ?_
        refine lv_if_ne (tgt := 43) hx hb dX1_isBusinessDay_36 (by decide) (fun c_36 => ?_) (fun c_36 => False.elim (by exact absurd c_36 (by decide)))
        refine lv_iconst (v := 0) hx hb dX1_isBusinessDay_43 (by decide) ?_
        have h9 : bus f d = 0 := by unfold bus; rw [if_neg]; exact fun z => z.2 ⟨ixb_t c_9, c_18⟩
        exact (r_z hx hb hr hlocks hS (v := 0) (by simp) () h9.symm hM (Nat.le_of_ble_eq_true rfl) (Nat.le_of_ble_eq_true rfl) dX1_isBusinessDay_44)
set_option maxHeartbeats 4000000 in
set_option maxRecDepth 100000 in
theorem c_X1_nextBusinessDay (l : Launch) (G : Gx) (M : Mp) (a b : Nat) (f : Nat → Int32) (to : Int32) (fa : M a = some (.inr (1, [.ref b, .int to]))) (fb : M b = some (.inl (G.2.1 2, 1001, .inl f))) (hto : 1001 - (to + 1).toInt ≤ (1002 : Nat)) : Met l yX1_nextBusinessDay wsX1_nextBusinessDay ({ frames := 2, cells := 0, slots := 0, locals := 43 }) (Cv G M [.ref a]) (va_Qi (S := Unit) (fun r _ => r = nbd f 1002 (to + 1)) (Bm G (fun _ => M)) (AG G)) (0) (0) (AG G) := by
  refine m_met [.ref a] [(0, .ref a)] (by decide) rfl rfl (Nat.le_of_ble_eq_true rfl) ?_
  intro p e s m below meth c ls hx hb hr hml hown hts hlocks hin hC hM hl hS
  obtain ⟨z9, hz0⟩ : ∃ z, z = nbd f 1002 (to + 1) := ⟨_, rfl⟩
  rw [← hz0]
  refine lv_aload_n hx hb dX1_nextBusinessDay_0 rfl (lv_at hl 0 rfl) ?_
  refine m_get (ci := 1) (v := .int to) (C := RX1) (T := TX1) (N := 2) (a := a) hx hb hts (by decide +kernel) hown hC hM fa rfl 1 (by decide) (hts (.fieldLink RX1 19 "Forwardroll$Calendar" "today" "I") (by decide +kernel)) (fun _ h9 => h9) rfl dX1_nextBusinessDay_1 ?_
  refine lv_iconst (v := 1) hx hb dX1_nextBusinessDay_4 (by decide) ?_
  refine lv_iadd hx hb dX1_nextBusinessDay_5 ?_
  refine lv_istore_n (lv' := [(1, .int (to + 1)), (0, .ref a)]) hx hb dX1_nextBusinessDay_6 rfl hl (by decide) rfl (fun ls hl => ?_)
  have loop : ∀ (n9 : Nat) (d9 : Int32), 1001 - d9.toInt ≤ (n9 : Int) → nbd f n9 d9 = z9 → ∀ ls : Array Slot, lv_has ls 2 [(0, .ref a), (1, .int d9)] → ∀ (H : Heap) (locs : List Loc), Hm G M H → va_S (AG G) s.heap H locs → W p l e { frames := 2, cells := 0, slots := 0, locals := 43 } s m ([.ref a] : List Value).toArray below meth c H locs 0 0 (MQ below (va_Qi (S := Unit) (fun r _ => r = z9) (Bm G (fun _ => M)) (AG G)) ([.ref a] : List Value).toArray s 0 0 (AG G)) (F0 m 7 ls []) := by
    intro n9
    induction n9 with
    | zero =>
      intro d9 hd9 hz9 ls hl H locs hM hS
      refine lv_iload_n hx hb dX1_nextBusinessDay_7 rfl (lv_at hl 1 rfl) ?_
      refine lv_sipush (v := 1001) hx hb dX1_nextBusinessDay_8 (by decide) ?_
      refine lv_icmp_ge (tgt := 28) hx hb dX1_nextBusinessDay_11 (by decide) (fun c_11 => ?_) (fun c_11 => False.elim (by have h7 : (1001 : Int32).toInt = 1001 := rfl; have := Int32.lt_iff_toInt_lt.mp (Int32.not_le.mp c_11); omega))
      refine lv_iload_n hx hb dX1_nextBusinessDay_28 rfl (lv_at hl 1 rfl) ?_
      exact (r_i hx hb hr hlocks hS (v := d9) () (by rw [← hz9]; rfl) hM (Nat.le_of_ble_eq_true rfl) (Nat.le_of_ble_eq_true rfl) dX1_nextBusinessDay_29)
    | succ n9 ih =>
      intro d9 hd9 hz9 ls hl H locs hM hS
      refine lv_iload_n hx hb dX1_nextBusinessDay_7 rfl (lv_at hl 1 rfl) ?_
      refine lv_sipush (v := 1001) hx hb dX1_nextBusinessDay_8 (by decide) ?_
      refine lv_icmp_ge (tgt := 28) hx hb dX1_nextBusinessDay_11 (by decide) (fun c_11 => ?_) (fun c_11 => ?_)
      · refine lv_iload_n hx hb dX1_nextBusinessDay_28 rfl (lv_at hl 1 rfl) ?_
        exact (r_i hx hb hr hlocks hS (v := d9) () (by rw [← hz9]; show _ = (if d9 < 1001 ∧ bus f d9 = 0 then nbd f n9 (d9 + 1) else d9); rw [if_neg (fun z => Int32.not_le.mpr z.1 c_11)]) hM (Nat.le_of_ble_eq_true rfl) (Nat.le_of_ble_eq_true rfl) dX1_nextBusinessDay_29)
      · refine lv_aload_n hx hb dX1_nextBusinessDay_14 rfl (lv_at hl 0 rfl) ?_
        refine lv_iload_n hx hb dX1_nextBusinessDay_15 rfl (lv_at hl 1 rfl) ?_
        refine k_i (va_runV (As := [.int d9]) (rest := []) ⟨hx, hb, hml, hown, hts⟩ (c_X1_isBusinessDay l G M a b f to d9 fa fb) (cwV 1 hts gX1_nextBusinessDay_X1_isBusinessDay rfl rfl rfl (by decide +kernel) ⟨Nat.le_of_ble_eq_true rfl, Nat.le_of_ble_eq_true rfl⟩) (preV_of hC hS hM fa rfl) rfl rfl hl.1 rfl (lv_room (Nat.le_of_ble_eq_true rfl)) dX1_nextBusinessDay_16 ⟨Nat.le_of_ble_eq_true rfl, Nat.le_of_ble_eq_true rfl⟩) hS (fun r16 u16 H locs hp16 hM hS => ?_)
        have hM : Hm G M H := hM
        have hp16 : r16 = bus f d9 := hp16
        subst hp16
        refine lv_if_ne (tgt := 28) hx hb dX1_nextBusinessDay_19 (by decide) (fun c_19 => ?_) (fun c_19 => ?_)
        · refine lv_iload_n hx hb dX1_nextBusinessDay_28 rfl (lv_at hl 1 rfl) ?_
          exact (r_i hx hb hr hlocks hS (v := d9) () (by rw [← hz9]; show _ = (if d9 < 1001 ∧ bus f d9 = 0 then nbd f n9 (d9 + 1) else d9); rw [if_neg (fun z => c_19 z.2)]) hM (Nat.le_of_ble_eq_true rfl) (Nat.le_of_ble_eq_true rfl) dX1_nextBusinessDay_29)
        · refine lv_iinc (v := (d9 + 1)) (lv' := [(1, .int (d9 + 1)), (0, .ref a)]) hx hb dX1_nextBusinessDay_22 hl (k := 1) rfl rfl (by decide) rfl (fun ls hl => ?_)
          refine lv_goto (tgt := 7) hx hb dX1_nextBusinessDay_25 (by decide) ?_
          exact ih (d9 + 1) (by have := Int32.lt_iff_toInt_lt.mp (Int32.not_le.mp c_11); rw [Int32.toInt_add, show (1 : Int32).toInt = 1 from rfl]; have h8 := Int32.toInt_lt d9; have h7 : (1001 : Int32).toInt = 1001 := rfl; have h5 := Int32.le_toInt d9; rw [show (d9.toInt + 1).bmod (2 ^ 32) = d9.toInt + 1 from Int.bmod_eq_of_le (by omega) (by omega)]; omega) (by rw [← hz9]; show _ = (if d9 < 1001 ∧ bus f d9 = 0 then nbd f n9 (d9 + 1) else d9); rw [if_pos ⟨Int32.not_le.mp c_11, c_19⟩]) ls (lv_sub hl [1, 0] rfl) _ _ hM hS
  exact loop 1002 (to + 1) hto hz0.symm ls (lv_sub hl [1, 0] rfl) _ _ hM hS
end
section
set_option maxHeartbeats 4000000 in
set_option maxRecDepth 100000 in
theorem c_X0_addAll (l : Launch) (G : Gx) (M : Mp) (a b x y : Nat) (f g : Nat → Int64) (fa : M a = some (.inr (0, [.ref b]))) (fb : M b = some (.inl (G.2.1 1, 5, .inr (.inl f)))) (fx : M x = some (.inr (0, [.ref y]))) (fy : M y = some (.inl (G.2.1 1, 5, .inr (.inl g)))) (hyb : y ≠ b) : Met l yX0_addAll wsX0_addAll ({ frames := 2, cells := 0, slots := 0, locals := 44 }) (Cv G M [.ref a, .ref x]) (va_Qv (S := Unit) (fun _ => True) (Bm G (fun _ => va_up M b (some (.inl (G.2.1 1, 5, .inr (.inl (addrow f g))))))) (AG G)) (0) (0) (AG G) := by
  refine m_met [.ref a, .ref x] [(0, .ref a), (1, .ref x)] (by decide) rfl rfl (Nat.le_of_ble_eq_true rfl) ?_
  intro p e s m below meth c ls hx hb hr hml hown hts hlocks hin hC hM hl hS
  refine lv_iconst (v := 0) hx hb dX0_addAll_0 (by decide) ?_
  refine lv_istore_n (lv' := [(2, .int 0), (0, .ref a), (1, .ref x)]) hx hb dX0_addAll_1 rfl hl (by decide) rfl (fun ls hl => ?_)
  refine lv_iload_n hx hb dX0_addAll_2 rfl (lv_at hl 0 rfl) ?_
  refine lv_iconst (v := 5) hx hb dX0_addAll_3 (by decide) ?_
  refine lv_icmp_ge (tgt := 23) hx hb dX0_addAll_4 (by decide) (fun c_4 => False.elim (by exact absurd c_4 (by decide))) (fun c_4 => ?_)
  refine lv_aload_n hx hb dX0_addAll_7 rfl (lv_at hl 1 rfl) ?_
  refine lv_iload_n hx hb dX0_addAll_8 rfl (lv_at hl 0 rfl) ?_
  refine lv_aload_n hx hb dX0_addAll_9 rfl (lv_at hl 2 rfl) ?_
  refine lv_iload_n hx hb dX0_addAll_10 rfl (lv_at hl 0 rfl) ?_
  refine k_l (va_runV (As := [.int 0]) (rest := [.int 0, .ref a]) ⟨hx, hb, hml, hown, hts⟩ (c_X0_amountOf l G M x y g 0 fx fy) (cwV 1 hts gX0_addAll_X0_amountOf rfl rfl rfl (by decide +kernel) ⟨Nat.le_of_ble_eq_true rfl, Nat.le_of_ble_eq_true rfl⟩) (preV_of hC hS hM fx rfl) rfl rfl hl.1 rfl (lv_room (Nat.le_of_ble_eq_true rfl)) dX0_addAll_11 ⟨Nat.le_of_ble_eq_true rfl, Nat.le_of_ble_eq_true rfl⟩) hS (fun r11 u11 H locs hp11 hM hS => ?_)
  have hM : Hm G M H := hM
  have hp11 : r11 = rd g 0 5 := hp11
  subst hp11
  refine k_v (va_runV (As := [.int 0, .long (rd g 0 5)]) (rest := []) ⟨hx, hb, hml, hown, hts⟩ (c_X0_add l G M a b f 0 (rd g 0 5) fa fb (vin_of (n := 5) 5 (by decide) (by decide))) (cwV 2 hts gX0_addAll_X0_add rfl rfl rfl (by decide +kernel) ⟨Nat.le_of_ble_eq_true rfl, Nat.le_of_ble_eq_true rfl⟩) (preV_of hC hS hM fa rfl) rfl rfl hl.1 rfl (lv_room (Nat.le_of_ble_eq_true rfl)) dX0_addAll_14 ⟨Nat.le_of_ble_eq_true rfl, Nat.le_of_ble_eq_true rfl⟩) hS (fun u14 H locs hp14 hM hS => ?_)
  have hM : Hm G (va_up M b (some (.inl (G.2.1 1, 5, .inr (.inl (vp_updL f (0 : Int32).toNatClampNeg (f (0 : Int32).toNatClampNeg + (rd g 0 5)))))))) H := hM
  have f14_3 : (va_up M b (some (.inl (G.2.1 1, 5, .inr (.inl (vp_updL f (0 : Int32).toNatClampNeg (f (0 : Int32).toNatClampNeg + (rd g 0 5)))))))) a = some (.inr (0, [.ref b])) := (up_ne (fun h9 => absurd (Eq.trans (Eq.trans (Eq.symm fa) (congrArg M h9)) fb) (by simp))).trans fa
  have f14_4 : (va_up M b (some (.inl (G.2.1 1, 5, .inr (.inl (vp_updL f (0 : Int32).toNatClampNeg (f (0 : Int32).toNatClampNeg + (rd g 0 5)))))))) b = some (.inl (G.2.1 1, 5, .inr (.inl (vp_updL f (0 : Int32).toNatClampNeg (f (0 : Int32).toNatClampNeg + (rd g 0 5)))))) := up_eq
  have f14_5 : (va_up M b (some (.inl (G.2.1 1, 5, .inr (.inl (vp_updL f (0 : Int32).toNatClampNeg (f (0 : Int32).toNatClampNeg + (rd g 0 5)))))))) x = some (.inr (0, [.ref y])) := (up_ne (fun h9 => absurd (Eq.trans (Eq.trans (Eq.symm fx) (congrArg M h9)) fb) (by simp))).trans fx
  have f14_6 : (va_up M b (some (.inl (G.2.1 1, 5, .inr (.inl (vp_updL f (0 : Int32).toNatClampNeg (f (0 : Int32).toNatClampNeg + (rd g 0 5)))))))) y = some (.inl (G.2.1 1, 5, .inr (.inl g))) := (up_ne hyb).trans fy
  refine lv_iinc (v := 1) (lv' := [(2, .int 1), (0, .ref a), (1, .ref x)]) hx hb dX0_addAll_17 hl (k := 0) rfl (by decide) (by decide) rfl (fun ls hl => ?_)
  refine lv_goto (tgt := 2) hx hb dX0_addAll_20 (by decide) ?_
  refine lv_iload_n hx hb dX0_addAll_2 rfl (lv_at hl 0 rfl) ?_
  refine lv_iconst (v := 5) hx hb dX0_addAll_3 (by decide) ?_
  refine lv_icmp_ge (tgt := 23) hx hb dX0_addAll_4 (by decide) (fun c_4_7 => False.elim (by exact absurd c_4_7 (by decide))) (fun c_4_7 => ?_)
  refine lv_aload_n hx hb dX0_addAll_7 rfl (lv_at hl 1 rfl) ?_
  refine lv_iload_n hx hb dX0_addAll_8 rfl (lv_at hl 0 rfl) ?_
  refine lv_aload_n hx hb dX0_addAll_9 rfl (lv_at hl 2 rfl) ?_
  refine lv_iload_n hx hb dX0_addAll_10 rfl (lv_at hl 0 rfl) ?_
  refine k_l (va_runV (As := [.int 1]) (rest := [.int 1, .ref a]) ⟨hx, hb, hml, hown, hts⟩ (c_X0_amountOf l G (va_up M b (some (.inl (G.2.1 1, 5, .inr (.inl (vp_updL f (0 : Int32).toNatClampNeg (f (0 : Int32).toNatClampNeg + (rd g 0 5)))))))) x y g 1 f14_5 f14_6) (cwV 1 hts gX0_addAll_X0_amountOf rfl rfl rfl (by decide +kernel) ⟨Nat.le_of_ble_eq_true rfl, Nat.le_of_ble_eq_true rfl⟩) (preV_of hC hS hM f14_5 rfl) rfl rfl hl.1 rfl (lv_room (Nat.le_of_ble_eq_true rfl)) dX0_addAll_11 ⟨Nat.le_of_ble_eq_true rfl, Nat.le_of_ble_eq_true rfl⟩) hS (fun r11 u11 H locs hp11 hM hS => ?_)
  have hM : Hm G (va_up M b (some (.inl (G.2.1 1, 5, .inr (.inl (vp_updL f (0 : Int32).toNatClampNeg (f (0 : Int32).toNatClampNeg + (rd g 0 5)))))))) H := hM
  have hp11 : r11 = rd g 1 5 := hp11
  subst hp11
  refine k_v (va_runV (As := [.int 1, .long (rd g 1 5)]) (rest := []) ⟨hx, hb, hml, hown, hts⟩ (c_X0_add l G (va_up M b (some (.inl (G.2.1 1, 5, .inr (.inl (vp_updL f (0 : Int32).toNatClampNeg (f (0 : Int32).toNatClampNeg + (rd g 0 5)))))))) a b (vp_updL f (0 : Int32).toNatClampNeg (f (0 : Int32).toNatClampNeg + (rd g 0 5))) 1 (rd g 1 5) f14_3 f14_4 (vin_of (n := 5) 5 (by decide) (by decide))) (cwV 2 hts gX0_addAll_X0_add rfl rfl rfl (by decide +kernel) ⟨Nat.le_of_ble_eq_true rfl, Nat.le_of_ble_eq_true rfl⟩) (preV_of hC hS hM f14_3 rfl) rfl rfl hl.1 rfl (lv_room (Nat.le_of_ble_eq_true rfl)) dX0_addAll_14 ⟨Nat.le_of_ble_eq_true rfl, Nat.le_of_ble_eq_true rfl⟩) hS (fun u14 H locs hp14 hM hS => ?_)
  have hM : Hm G (va_up M b (some (.inl (G.2.1 1, 5, .inr (.inl (vp_updL (vp_updL f (0 : Int32).toNatClampNeg (f (0 : Int32).toNatClampNeg + (rd g 0 5))) (1 : Int32).toNatClampNeg ((vp_updL f (0 : Int32).toNatClampNeg (f (0 : Int32).toNatClampNeg + (rd g 0 5))) (1 : Int32).toNatClampNeg + (rd g 1 5)))))))) H := up2 ▸ hM
  have f14_9 : (va_up M b (some (.inl (G.2.1 1, 5, .inr (.inl (vp_updL (vp_updL f (0 : Int32).toNatClampNeg (f (0 : Int32).toNatClampNeg + (rd g 0 5))) (1 : Int32).toNatClampNeg ((vp_updL f (0 : Int32).toNatClampNeg (f (0 : Int32).toNatClampNeg + (rd g 0 5))) (1 : Int32).toNatClampNeg + (rd g 1 5)))))))) a = some (.inr (0, [.ref b])) := (up_ne (fun h9 => absurd (Eq.trans (Eq.trans (Eq.symm f14_3) (congrArg (va_up M b (some (.inl (G.2.1 1, 5, .inr (.inl (vp_updL f (0 : Int32).toNatClampNeg (f (0 : Int32).toNatClampNeg + (rd g 0 5)))))))) h9)) f14_4) (by simp))).trans fa
  have f14_10 : (va_up M b (some (.inl (G.2.1 1, 5, .inr (.inl (vp_updL (vp_updL f (0 : Int32).toNatClampNeg (f (0 : Int32).toNatClampNeg + (rd g 0 5))) (1 : Int32).toNatClampNeg ((vp_updL f (0 : Int32).toNatClampNeg (f (0 : Int32).toNatClampNeg + (rd g 0 5))) (1 : Int32).toNatClampNeg + (rd g 1 5)))))))) b = some (.inl (G.2.1 1, 5, .inr (.inl (vp_updL (vp_updL f (0 : Int32).toNatClampNeg (f (0 : Int32).toNatClampNeg + (rd g 0 5))) (1 : Int32).toNatClampNeg ((vp_updL f (0 : Int32).toNatClampNeg (f (0 : Int32).toNatClampNeg + (rd g 0 5))) (1 : Int32).toNatClampNeg + (rd g 1 5)))))) := up_eq
  have f14_11 : (va_up M b (some (.inl (G.2.1 1, 5, .inr (.inl (vp_updL (vp_updL f (0 : Int32).toNatClampNeg (f (0 : Int32).toNatClampNeg + (rd g 0 5))) (1 : Int32).toNatClampNeg ((vp_updL f (0 : Int32).toNatClampNeg (f (0 : Int32).toNatClampNeg + (rd g 0 5))) (1 : Int32).toNatClampNeg + (rd g 1 5)))))))) x = some (.inr (0, [.ref y])) := (up_ne (fun h9 => absurd (Eq.trans (Eq.trans (Eq.symm f14_5) (congrArg (va_up M b (some (.inl (G.2.1 1, 5, .inr (.inl (vp_updL f (0 : Int32).toNatClampNeg (f (0 : Int32).toNatClampNeg + (rd g 0 5)))))))) h9)) f14_4) (by simp))).trans fx
  have f14_12 : (va_up M b (some (.inl (G.2.1 1, 5, .inr (.inl (vp_updL (vp_updL f (0 : Int32).toNatClampNeg (f (0 : Int32).toNatClampNeg + (rd g 0 5))) (1 : Int32).toNatClampNeg ((vp_updL f (0 : Int32).toNatClampNeg (f (0 : Int32).toNatClampNeg + (rd g 0 5))) (1 : Int32).toNatClampNeg + (rd g 1 5)))))))) y = some (.inl (G.2.1 1, 5, .inr (.inl g))) := (up_ne hyb).trans fy
  refine lv_iinc (v := 2) (lv' := [(2, .int 2), (0, .ref a), (1, .ref x)]) hx hb dX0_addAll_17 hl (k := 0) rfl (by decide) (by decide) rfl (fun ls hl => ?_)
  refine lv_goto (tgt := 2) hx hb dX0_addAll_20 (by decide) ?_
  refine lv_iload_n hx hb dX0_addAll_2 rfl (lv_at hl 0 rfl) ?_
  refine lv_iconst (v := 5) hx hb dX0_addAll_3 (by decide) ?_
  refine lv_icmp_ge (tgt := 23) hx hb dX0_addAll_4 (by decide) (fun c_4_13 => False.elim (by exact absurd c_4_13 (by decide))) (fun c_4_13 => ?_)
  refine lv_aload_n hx hb dX0_addAll_7 rfl (lv_at hl 1 rfl) ?_
  refine lv_iload_n hx hb dX0_addAll_8 rfl (lv_at hl 0 rfl) ?_
  refine lv_aload_n hx hb dX0_addAll_9 rfl (lv_at hl 2 rfl) ?_
  refine lv_iload_n hx hb dX0_addAll_10 rfl (lv_at hl 0 rfl) ?_
  refine k_l (va_runV (As := [.int 2]) (rest := [.int 2, .ref a]) ⟨hx, hb, hml, hown, hts⟩ (c_X0_amountOf l G (va_up M b (some (.inl (G.2.1 1, 5, .inr (.inl (vp_updL (vp_updL f (0 : Int32).toNatClampNeg (f (0 : Int32).toNatClampNeg + (rd g 0 5))) (1 : Int32).toNatClampNeg ((vp_updL f (0 : Int32).toNatClampNeg (f (0 : Int32).toNatClampNeg + (rd g 0 5))) (1 : Int32).toNatClampNeg + (rd g 1 5)))))))) x y g 2 f14_11 f14_12) (cwV 1 hts gX0_addAll_X0_amountOf rfl rfl rfl (by decide +kernel) ⟨Nat.le_of_ble_eq_true rfl, Nat.le_of_ble_eq_true rfl⟩) (preV_of hC hS hM f14_11 rfl) rfl rfl hl.1 rfl (lv_room (Nat.le_of_ble_eq_true rfl)) dX0_addAll_11 ⟨Nat.le_of_ble_eq_true rfl, Nat.le_of_ble_eq_true rfl⟩) hS (fun r11 u11 H locs hp11 hM hS => ?_)
  have hM : Hm G (va_up M b (some (.inl (G.2.1 1, 5, .inr (.inl (vp_updL (vp_updL f (0 : Int32).toNatClampNeg (f (0 : Int32).toNatClampNeg + (rd g 0 5))) (1 : Int32).toNatClampNeg ((vp_updL f (0 : Int32).toNatClampNeg (f (0 : Int32).toNatClampNeg + (rd g 0 5))) (1 : Int32).toNatClampNeg + (rd g 1 5)))))))) H := hM
  have hp11 : r11 = rd g 2 5 := hp11
  subst hp11
  refine k_v (va_runV (As := [.int 2, .long (rd g 2 5)]) (rest := []) ⟨hx, hb, hml, hown, hts⟩ (c_X0_add l G (va_up M b (some (.inl (G.2.1 1, 5, .inr (.inl (vp_updL (vp_updL f (0 : Int32).toNatClampNeg (f (0 : Int32).toNatClampNeg + (rd g 0 5))) (1 : Int32).toNatClampNeg ((vp_updL f (0 : Int32).toNatClampNeg (f (0 : Int32).toNatClampNeg + (rd g 0 5))) (1 : Int32).toNatClampNeg + (rd g 1 5)))))))) a b (vp_updL (vp_updL f (0 : Int32).toNatClampNeg (f (0 : Int32).toNatClampNeg + (rd g 0 5))) (1 : Int32).toNatClampNeg ((vp_updL f (0 : Int32).toNatClampNeg (f (0 : Int32).toNatClampNeg + (rd g 0 5))) (1 : Int32).toNatClampNeg + (rd g 1 5))) 2 (rd g 2 5) f14_9 f14_10 (vin_of (n := 5) 5 (by decide) (by decide))) (cwV 2 hts gX0_addAll_X0_add rfl rfl rfl (by decide +kernel) ⟨Nat.le_of_ble_eq_true rfl, Nat.le_of_ble_eq_true rfl⟩) (preV_of hC hS hM f14_9 rfl) rfl rfl hl.1 rfl (lv_room (Nat.le_of_ble_eq_true rfl)) dX0_addAll_14 ⟨Nat.le_of_ble_eq_true rfl, Nat.le_of_ble_eq_true rfl⟩) hS (fun u14 H locs hp14 hM hS => ?_)
  have hM : Hm G (va_up M b (some (.inl (G.2.1 1, 5, .inr (.inl (vp_updL (vp_updL (vp_updL f (0 : Int32).toNatClampNeg (f (0 : Int32).toNatClampNeg + (rd g 0 5))) (1 : Int32).toNatClampNeg ((vp_updL f (0 : Int32).toNatClampNeg (f (0 : Int32).toNatClampNeg + (rd g 0 5))) (1 : Int32).toNatClampNeg + (rd g 1 5))) (2 : Int32).toNatClampNeg ((vp_updL (vp_updL f (0 : Int32).toNatClampNeg (f (0 : Int32).toNatClampNeg + (rd g 0 5))) (1 : Int32).toNatClampNeg ((vp_updL f (0 : Int32).toNatClampNeg (f (0 : Int32).toNatClampNeg + (rd g 0 5))) (1 : Int32).toNatClampNeg + (rd g 1 5))) (2 : Int32).toNatClampNeg + (rd g 2 5)))))))) H := up2 ▸ hM
  have f14_15 : (va_up M b (some (.inl (G.2.1 1, 5, .inr (.inl (vp_updL (vp_updL (vp_updL f (0 : Int32).toNatClampNeg (f (0 : Int32).toNatClampNeg + (rd g 0 5))) (1 : Int32).toNatClampNeg ((vp_updL f (0 : Int32).toNatClampNeg (f (0 : Int32).toNatClampNeg + (rd g 0 5))) (1 : Int32).toNatClampNeg + (rd g 1 5))) (2 : Int32).toNatClampNeg ((vp_updL (vp_updL f (0 : Int32).toNatClampNeg (f (0 : Int32).toNatClampNeg + (rd g 0 5))) (1 : Int32).toNatClampNeg ((vp_updL f (0 : Int32).toNatClampNeg (f (0 : Int32).toNatClampNeg + (rd g 0 5))) (1 : Int32).toNatClampNeg + (rd g 1 5))) (2 : Int32).toNatClampNeg + (rd g 2 5)))))))) a = some (.inr (0, [.ref b])) := (up_ne (fun h9 => absurd (Eq.trans (Eq.trans (Eq.symm f14_9) (congrArg (va_up M b (some (.inl (G.2.1 1, 5, .inr (.inl (vp_updL (vp_updL f (0 : Int32).toNatClampNeg (f (0 : Int32).toNatClampNeg + (rd g 0 5))) (1 : Int32).toNatClampNeg ((vp_updL f (0 : Int32).toNatClampNeg (f (0 : Int32).toNatClampNeg + (rd g 0 5))) (1 : Int32).toNatClampNeg + (rd g 1 5)))))))) h9)) f14_10) (by simp))).trans fa
  have f14_16 : (va_up M b (some (.inl (G.2.1 1, 5, .inr (.inl (vp_updL (vp_updL (vp_updL f (0 : Int32).toNatClampNeg (f (0 : Int32).toNatClampNeg + (rd g 0 5))) (1 : Int32).toNatClampNeg ((vp_updL f (0 : Int32).toNatClampNeg (f (0 : Int32).toNatClampNeg + (rd g 0 5))) (1 : Int32).toNatClampNeg + (rd g 1 5))) (2 : Int32).toNatClampNeg ((vp_updL (vp_updL f (0 : Int32).toNatClampNeg (f (0 : Int32).toNatClampNeg + (rd g 0 5))) (1 : Int32).toNatClampNeg ((vp_updL f (0 : Int32).toNatClampNeg (f (0 : Int32).toNatClampNeg + (rd g 0 5))) (1 : Int32).toNatClampNeg + (rd g 1 5))) (2 : Int32).toNatClampNeg + (rd g 2 5)))))))) b = some (.inl (G.2.1 1, 5, .inr (.inl (vp_updL (vp_updL (vp_updL f (0 : Int32).toNatClampNeg (f (0 : Int32).toNatClampNeg + (rd g 0 5))) (1 : Int32).toNatClampNeg ((vp_updL f (0 : Int32).toNatClampNeg (f (0 : Int32).toNatClampNeg + (rd g 0 5))) (1 : Int32).toNatClampNeg + (rd g 1 5))) (2 : Int32).toNatClampNeg ((vp_updL (vp_updL f (0 : Int32).toNatClampNeg (f (0 : Int32).toNatClampNeg + (rd g 0 5))) (1 : Int32).toNatClampNeg ((vp_updL f (0 : Int32).toNatClampNeg (f (0 : Int32).toNatClampNeg + (rd g 0 5))) (1 : Int32).toNatClampNeg + (rd g 1 5))) (2 : Int32).toNatClampNeg + (rd g 2 5)))))) := up_eq
  have f14_17 : (va_up M b (some (.inl (G.2.1 1, 5, .inr (.inl (vp_updL (vp_updL (vp_updL f (0 : Int32).toNatClampNeg (f (0 : Int32).toNatClampNeg + (rd g 0 5))) (1 : Int32).toNatClampNeg ((vp_updL f (0 : Int32).toNatClampNeg (f (0 : Int32).toNatClampNeg + (rd g 0 5))) (1 : Int32).toNatClampNeg + (rd g 1 5))) (2 : Int32).toNatClampNeg ((vp_updL (vp_updL f (0 : Int32).toNatClampNeg (f (0 : Int32).toNatClampNeg + (rd g 0 5))) (1 : Int32).toNatClampNeg ((vp_updL f (0 : Int32).toNatClampNeg (f (0 : Int32).toNatClampNeg + (rd g 0 5))) (1 : Int32).toNatClampNeg + (rd g 1 5))) (2 : Int32).toNatClampNeg + (rd g 2 5)))))))) x = some (.inr (0, [.ref y])) := (up_ne (fun h9 => absurd (Eq.trans (Eq.trans (Eq.symm f14_11) (congrArg (va_up M b (some (.inl (G.2.1 1, 5, .inr (.inl (vp_updL (vp_updL f (0 : Int32).toNatClampNeg (f (0 : Int32).toNatClampNeg + (rd g 0 5))) (1 : Int32).toNatClampNeg ((vp_updL f (0 : Int32).toNatClampNeg (f (0 : Int32).toNatClampNeg + (rd g 0 5))) (1 : Int32).toNatClampNeg + (rd g 1 5)))))))) h9)) f14_10) (by simp))).trans fx
  have f14_18 : (va_up M b (some (.inl (G.2.1 1, 5, .inr (.inl (vp_updL (vp_updL (vp_updL f (0 : Int32).toNatClampNeg (f (0 : Int32).toNatClampNeg + (rd g 0 5))) (1 : Int32).toNatClampNeg ((vp_updL f (0 : Int32).toNatClampNeg (f (0 : Int32).toNatClampNeg + (rd g 0 5))) (1 : Int32).toNatClampNeg + (rd g 1 5))) (2 : Int32).toNatClampNeg ((vp_updL (vp_updL f (0 : Int32).toNatClampNeg (f (0 : Int32).toNatClampNeg + (rd g 0 5))) (1 : Int32).toNatClampNeg ((vp_updL f (0 : Int32).toNatClampNeg (f (0 : Int32).toNatClampNeg + (rd g 0 5))) (1 : Int32).toNatClampNeg + (rd g 1 5))) (2 : Int32).toNatClampNeg + (rd g 2 5)))))))) y = some (.inl (G.2.1 1, 5, .inr (.inl g))) := (up_ne hyb).trans fy
  refine lv_iinc (v := 3) (lv' := [(2, .int 3), (0, .ref a), (1, .ref x)]) hx hb dX0_addAll_17 hl (k := 0) rfl (by decide) (by decide) rfl (fun ls hl => ?_)
  refine lv_goto (tgt := 2) hx hb dX0_addAll_20 (by decide) ?_
  refine lv_iload_n hx hb dX0_addAll_2 rfl (lv_at hl 0 rfl) ?_
  refine lv_iconst (v := 5) hx hb dX0_addAll_3 (by decide) ?_
  refine lv_icmp_ge (tgt := 23) hx hb dX0_addAll_4 (by decide) (fun c_4_19 => False.elim (by exact absurd c_4_19 (by decide))) (fun c_4_19 => ?_)
  refine lv_aload_n hx hb dX0_addAll_7 rfl (lv_at hl 1 rfl) ?_
  refine lv_iload_n hx hb dX0_addAll_8 rfl (lv_at hl 0 rfl) ?_
  refine lv_aload_n hx hb dX0_addAll_9 rfl (lv_at hl 2 rfl) ?_
  refine lv_iload_n hx hb dX0_addAll_10 rfl (lv_at hl 0 rfl) ?_
  refine k_l (va_runV (As := [.int 3]) (rest := [.int 3, .ref a]) ⟨hx, hb, hml, hown, hts⟩ (c_X0_amountOf l G (va_up M b (some (.inl (G.2.1 1, 5, .inr (.inl (vp_updL (vp_updL (vp_updL f (0 : Int32).toNatClampNeg (f (0 : Int32).toNatClampNeg + (rd g 0 5))) (1 : Int32).toNatClampNeg ((vp_updL f (0 : Int32).toNatClampNeg (f (0 : Int32).toNatClampNeg + (rd g 0 5))) (1 : Int32).toNatClampNeg + (rd g 1 5))) (2 : Int32).toNatClampNeg ((vp_updL (vp_updL f (0 : Int32).toNatClampNeg (f (0 : Int32).toNatClampNeg + (rd g 0 5))) (1 : Int32).toNatClampNeg ((vp_updL f (0 : Int32).toNatClampNeg (f (0 : Int32).toNatClampNeg + (rd g 0 5))) (1 : Int32).toNatClampNeg + (rd g 1 5))) (2 : Int32).toNatClampNeg + (rd g 2 5)))))))) x y g 3 f14_17 f14_18) (cwV 1 hts gX0_addAll_X0_amountOf rfl rfl rfl (by decide +kernel) ⟨Nat.le_of_ble_eq_true rfl, Nat.le_of_ble_eq_true rfl⟩) (preV_of hC hS hM f14_17 rfl) rfl rfl hl.1 rfl (lv_room (Nat.le_of_ble_eq_true rfl)) dX0_addAll_11 ⟨Nat.le_of_ble_eq_true rfl, Nat.le_of_ble_eq_true rfl⟩) hS (fun r11 u11 H locs hp11 hM hS => ?_)
  have hM : Hm G (va_up M b (some (.inl (G.2.1 1, 5, .inr (.inl (vp_updL (vp_updL (vp_updL f (0 : Int32).toNatClampNeg (f (0 : Int32).toNatClampNeg + (rd g 0 5))) (1 : Int32).toNatClampNeg ((vp_updL f (0 : Int32).toNatClampNeg (f (0 : Int32).toNatClampNeg + (rd g 0 5))) (1 : Int32).toNatClampNeg + (rd g 1 5))) (2 : Int32).toNatClampNeg ((vp_updL (vp_updL f (0 : Int32).toNatClampNeg (f (0 : Int32).toNatClampNeg + (rd g 0 5))) (1 : Int32).toNatClampNeg ((vp_updL f (0 : Int32).toNatClampNeg (f (0 : Int32).toNatClampNeg + (rd g 0 5))) (1 : Int32).toNatClampNeg + (rd g 1 5))) (2 : Int32).toNatClampNeg + (rd g 2 5)))))))) H := hM
  have hp11 : r11 = rd g 3 5 := hp11
  subst hp11
  refine k_v (va_runV (As := [.int 3, .long (rd g 3 5)]) (rest := []) ⟨hx, hb, hml, hown, hts⟩ (c_X0_add l G (va_up M b (some (.inl (G.2.1 1, 5, .inr (.inl (vp_updL (vp_updL (vp_updL f (0 : Int32).toNatClampNeg (f (0 : Int32).toNatClampNeg + (rd g 0 5))) (1 : Int32).toNatClampNeg ((vp_updL f (0 : Int32).toNatClampNeg (f (0 : Int32).toNatClampNeg + (rd g 0 5))) (1 : Int32).toNatClampNeg + (rd g 1 5))) (2 : Int32).toNatClampNeg ((vp_updL (vp_updL f (0 : Int32).toNatClampNeg (f (0 : Int32).toNatClampNeg + (rd g 0 5))) (1 : Int32).toNatClampNeg ((vp_updL f (0 : Int32).toNatClampNeg (f (0 : Int32).toNatClampNeg + (rd g 0 5))) (1 : Int32).toNatClampNeg + (rd g 1 5))) (2 : Int32).toNatClampNeg + (rd g 2 5)))))))) a b (vp_updL (vp_updL (vp_updL f (0 : Int32).toNatClampNeg (f (0 : Int32).toNatClampNeg + (rd g 0 5))) (1 : Int32).toNatClampNeg ((vp_updL f (0 : Int32).toNatClampNeg (f (0 : Int32).toNatClampNeg + (rd g 0 5))) (1 : Int32).toNatClampNeg + (rd g 1 5))) (2 : Int32).toNatClampNeg ((vp_updL (vp_updL f (0 : Int32).toNatClampNeg (f (0 : Int32).toNatClampNeg + (rd g 0 5))) (1 : Int32).toNatClampNeg ((vp_updL f (0 : Int32).toNatClampNeg (f (0 : Int32).toNatClampNeg + (rd g 0 5))) (1 : Int32).toNatClampNeg + (rd g 1 5))) (2 : Int32).toNatClampNeg + (rd g 2 5))) 3 (rd g 3 5) f14_15 f14_16 (vin_of (n := 5) 5 (by decide) (by decide))) (cwV 2 hts gX0_addAll_X0_add rfl rfl rfl (by decide +kernel) ⟨Nat.le_of_ble_eq_true rfl, Nat.le_of_ble_eq_true rfl⟩) (preV_of hC hS hM f14_15 rfl) rfl rfl hl.1 rfl (lv_room (Nat.le_of_ble_eq_true rfl)) dX0_addAll_14 ⟨Nat.le_of_ble_eq_true rfl, Nat.le_of_ble_eq_true rfl⟩) hS (fun u14 H locs hp14 hM hS => ?_)
  have hM : Hm G (va_up M b (some (.inl (G.2.1 1, 5, .inr (.inl (vp_updL (vp_updL (vp_updL (vp_updL f (0 : Int32).toNatClampNeg (f (0 : Int32).toNatClampNeg + (rd g 0 5))) (1 : Int32).toNatClampNeg ((vp_updL f (0 : Int32).toNatClampNeg (f (0 : Int32).toNatClampNeg + (rd g 0 5))) (1 : Int32).toNatClampNeg + (rd g 1 5))) (2 : Int32).toNatClampNeg ((vp_updL (vp_updL f (0 : Int32).toNatClampNeg (f (0 : Int32).toNatClampNeg + (rd g 0 5))) (1 : Int32).toNatClampNeg ((vp_updL f (0 : Int32).toNatClampNeg (f (0 : Int32).toNatClampNeg + (rd g 0 5))) (1 : Int32).toNatClampNeg + (rd g 1 5))) (2 : Int32).toNatClampNeg + (rd g 2 5))) (3 : Int32).toNatClampNeg ((vp_updL (vp_updL (vp_updL f (0 : Int32).toNatClampNeg (f (0 : Int32).toNatClampNeg + (rd g 0 5))) (1 : Int32).toNatClampNeg ((vp_updL f (0 : Int32).toNatClampNeg (f (0 : Int32).toNatClampNeg + (rd g 0 5))) (1 : Int32).toNatClampNeg + (rd g 1 5))) (2 : Int32).toNatClampNeg ((vp_updL (vp_updL f (0 : Int32).toNatClampNeg (f (0 : Int32).toNatClampNeg + (rd g 0 5))) (1 : Int32).toNatClampNeg ((vp_updL f (0 : Int32).toNatClampNeg (f (0 : Int32).toNatClampNeg + (rd g 0 5))) (1 : Int32).toNatClampNeg + (rd g 1 5))) (2 : Int32).toNatClampNeg + (rd g 2 5))) (3 : Int32).toNatClampNeg + (rd g 3 5)))))))) H := up2 ▸ hM
  have f14_21 : (va_up M b (some (.inl (G.2.1 1, 5, .inr (.inl (vp_updL (vp_updL (vp_updL (vp_updL f (0 : Int32).toNatClampNeg (f (0 : Int32).toNatClampNeg + (rd g 0 5))) (1 : Int32).toNatClampNeg ((vp_updL f (0 : Int32).toNatClampNeg (f (0 : Int32).toNatClampNeg + (rd g 0 5))) (1 : Int32).toNatClampNeg + (rd g 1 5))) (2 : Int32).toNatClampNeg ((vp_updL (vp_updL f (0 : Int32).toNatClampNeg (f (0 : Int32).toNatClampNeg + (rd g 0 5))) (1 : Int32).toNatClampNeg ((vp_updL f (0 : Int32).toNatClampNeg (f (0 : Int32).toNatClampNeg + (rd g 0 5))) (1 : Int32).toNatClampNeg + (rd g 1 5))) (2 : Int32).toNatClampNeg + (rd g 2 5))) (3 : Int32).toNatClampNeg ((vp_updL (vp_updL (vp_updL f (0 : Int32).toNatClampNeg (f (0 : Int32).toNatClampNeg + (rd g 0 5))) (1 : Int32).toNatClampNeg ((vp_updL f (0 : Int32).toNatClampNeg (f (0 : Int32).toNatClampNeg + (rd g 0 5))) (1 : Int32).toNatClampNeg + (rd g 1 5))) (2 : Int32).toNatClampNeg ((vp_updL (vp_updL f (0 : Int32).toNatClampNeg (f (0 : Int32).toNatClampNeg + (rd g 0 5))) (1 : Int32).toNatClampNeg ((vp_updL f (0 : Int32).toNatClampNeg (f (0 : Int32).toNatClampNeg + (rd g 0 5))) (1 : Int32).toNatClampNeg + (rd g 1 5))) (2 : Int32).toNatClampNeg + (rd g 2 5))) (3 : Int32).toNatClampNeg + (rd g 3 5)))))))) a = some (.inr (0, [.ref b])) := (up_ne (fun h9 => absurd (Eq.trans (Eq.trans (Eq.symm f14_15) (congrArg (va_up M b (some (.inl (G.2.1 1, 5, .inr (.inl (vp_updL (vp_updL (vp_updL f (0 : Int32).toNatClampNeg (f (0 : Int32).toNatClampNeg + (rd g 0 5))) (1 : Int32).toNatClampNeg ((vp_updL f (0 : Int32).toNatClampNeg (f (0 : Int32).toNatClampNeg + (rd g 0 5))) (1 : Int32).toNatClampNeg + (rd g 1 5))) (2 : Int32).toNatClampNeg ((vp_updL (vp_updL f (0 : Int32).toNatClampNeg (f (0 : Int32).toNatClampNeg + (rd g 0 5))) (1 : Int32).toNatClampNeg ((vp_updL f (0 : Int32).toNatClampNeg (f (0 : Int32).toNatClampNeg + (rd g 0 5))) (1 : Int32).toNatClampNeg + (rd g 1 5))) (2 : Int32).toNatClampNeg + (rd g 2 5)))))))) h9)) f14_16) (by simp))).trans fa
  have f14_22 : (va_up M b (some (.inl (G.2.1 1, 5, .inr (.inl (vp_updL (vp_updL (vp_updL (vp_updL f (0 : Int32).toNatClampNeg (f (0 : Int32).toNatClampNeg + (rd g 0 5))) (1 : Int32).toNatClampNeg ((vp_updL f (0 : Int32).toNatClampNeg (f (0 : Int32).toNatClampNeg + (rd g 0 5))) (1 : Int32).toNatClampNeg + (rd g 1 5))) (2 : Int32).toNatClampNeg ((vp_updL (vp_updL f (0 : Int32).toNatClampNeg (f (0 : Int32).toNatClampNeg + (rd g 0 5))) (1 : Int32).toNatClampNeg ((vp_updL f (0 : Int32).toNatClampNeg (f (0 : Int32).toNatClampNeg + (rd g 0 5))) (1 : Int32).toNatClampNeg + (rd g 1 5))) (2 : Int32).toNatClampNeg + (rd g 2 5))) (3 : Int32).toNatClampNeg ((vp_updL (vp_updL (vp_updL f (0 : Int32).toNatClampNeg (f (0 : Int32).toNatClampNeg + (rd g 0 5))) (1 : Int32).toNatClampNeg ((vp_updL f (0 : Int32).toNatClampNeg (f (0 : Int32).toNatClampNeg + (rd g 0 5))) (1 : Int32).toNatClampNeg + (rd g 1 5))) (2 : Int32).toNatClampNeg ((vp_updL (vp_updL f (0 : Int32).toNatClampNeg (f (0 : Int32).toNatClampNeg + (rd g 0 5))) (1 : Int32).toNatClampNeg ((vp_updL f (0 : Int32).toNatClampNeg (f (0 : Int32).toNatClampNeg + (rd g 0 5))) (1 : Int32).toNatClampNeg + (rd g 1 5))) (2 : Int32).toNatClampNeg + (rd g 2 5))) (3 : Int32).toNatClampNeg + (rd g 3 5)))))))) b = some (.inl (G.2.1 1, 5, .inr (.inl (vp_updL (vp_updL (vp_updL (vp_updL f (0 : Int32).toNatClampNeg (f (0 : Int32).toNatClampNeg + (rd g 0 5))) (1 : Int32).toNatClampNeg ((vp_updL f (0 : Int32).toNatClampNeg (f (0 : Int32).toNatClampNeg + (rd g 0 5))) (1 : Int32).toNatClampNeg + (rd g 1 5))) (2 : Int32).toNatClampNeg ((vp_updL (vp_updL f (0 : Int32).toNatClampNeg (f (0 : Int32).toNatClampNeg + (rd g 0 5))) (1 : Int32).toNatClampNeg ((vp_updL f (0 : Int32).toNatClampNeg (f (0 : Int32).toNatClampNeg + (rd g 0 5))) (1 : Int32).toNatClampNeg + (rd g 1 5))) (2 : Int32).toNatClampNeg + (rd g 2 5))) (3 : Int32).toNatClampNeg ((vp_updL (vp_updL (vp_updL f (0 : Int32).toNatClampNeg (f (0 : Int32).toNatClampNeg + (rd g 0 5))) (1 : Int32).toNatClampNeg ((vp_updL f (0 : Int32).toNatClampNeg (f (0 : Int32).toNatClampNeg + (rd g 0 5))) (1 : Int32).toNatClampNeg + (rd g 1 5))) (2 : Int32).toNatClampNeg ((vp_updL (vp_updL f (0 : Int32).toNatClampNeg (f (0 : Int32).toNatClampNeg + (rd g 0 5))) (1 : Int32).toNatClampNeg ((vp_updL f (0 : Int32).toNatClampNeg (f (0 : Int32).toNatClampNeg + (rd g 0 5))) (1 : Int32).toNatClampNeg + (rd g 1 5))) (2 : Int32).toNatClampNeg + (rd g 2 5))) (3 : Int32).toNatClampNeg + (rd g 3 5)))))) := up_eq
  have f14_23 : (va_up M b (some (.inl (G.2.1 1, 5, .inr (.inl (vp_updL (vp_updL (vp_updL (vp_updL f (0 : Int32).toNatClampNeg (f (0 : Int32).toNatClampNeg + (rd g 0 5))) (1 : Int32).toNatClampNeg ((vp_updL f (0 : Int32).toNatClampNeg (f (0 : Int32).toNatClampNeg + (rd g 0 5))) (1 : Int32).toNatClampNeg + (rd g 1 5))) (2 : Int32).toNatClampNeg ((vp_updL (vp_updL f (0 : Int32).toNatClampNeg (f (0 : Int32).toNatClampNeg + (rd g 0 5))) (1 : Int32).toNatClampNeg ((vp_updL f (0 : Int32).toNatClampNeg (f (0 : Int32).toNatClampNeg + (rd g 0 5))) (1 : Int32).toNatClampNeg + (rd g 1 5))) (2 : Int32).toNatClampNeg + (rd g 2 5))) (3 : Int32).toNatClampNeg ((vp_updL (vp_updL (vp_updL f (0 : Int32).toNatClampNeg (f (0 : Int32).toNatClampNeg + (rd g 0 5))) (1 : Int32).toNatClampNeg ((vp_updL f (0 : Int32).toNatClampNeg (f (0 : Int32).toNatClampNeg + (rd g 0 5))) (1 : Int32).toNatClampNeg + (rd g 1 5))) (2 : Int32).toNatClampNeg ((vp_updL (vp_updL f (0 : Int32).toNatClampNeg (f (0 : Int32).toNatClampNeg + (rd g 0 5))) (1 : Int32).toNatClampNeg ((vp_updL f (0 : Int32).toNatClampNeg (f (0 : Int32).toNatClampNeg + (rd g 0 5))) (1 : Int32).toNatClampNeg + (rd g 1 5))) (2 : Int32).toNatClampNeg + (rd g 2 5))) (3 : Int32).toNatClampNeg + (rd g 3 5)))))))) x = some (.inr (0, [.ref y])) := (up_ne (fun h9 => absurd (Eq.trans (Eq.trans (Eq.symm f14_17) (congrArg (va_up M b (some (.inl (G.2.1 1, 5, .inr (.inl (vp_updL (vp_updL (vp_updL f (0 : Int32).toNatClampNeg (f (0 : Int32).toNatClampNeg + (rd g 0 5))) (1 : Int32).toNatClampNeg ((vp_updL f (0 : Int32).toNatClampNeg (f (0 : Int32).toNatClampNeg + (rd g 0 5))) (1 : Int32).toNatClampNeg + (rd g 1 5))) (2 : Int32).toNatClampNeg ((vp_updL (vp_updL f (0 : Int32).toNatClampNeg (f (0 : Int32).toNatClampNeg + (rd g 0 5))) (1 : Int32).toNatClampNeg ((vp_updL f (0 : Int32).toNatClampNeg (f (0 : Int32).toNatClampNeg + (rd g 0 5))) (1 : Int32).toNatClampNeg + (rd g 1 5))) (2 : Int32).toNatClampNeg + (rd g 2 5)))))))) h9)) f14_16) (by simp))).trans fx
  have f14_24 : (va_up M b (some (.inl (G.2.1 1, 5, .inr (.inl (vp_updL (vp_updL (vp_updL (vp_updL f (0 : Int32).toNatClampNeg (f (0 : Int32).toNatClampNeg + (rd g 0 5))) (1 : Int32).toNatClampNeg ((vp_updL f (0 : Int32).toNatClampNeg (f (0 : Int32).toNatClampNeg + (rd g 0 5))) (1 : Int32).toNatClampNeg + (rd g 1 5))) (2 : Int32).toNatClampNeg ((vp_updL (vp_updL f (0 : Int32).toNatClampNeg (f (0 : Int32).toNatClampNeg + (rd g 0 5))) (1 : Int32).toNatClampNeg ((vp_updL f (0 : Int32).toNatClampNeg (f (0 : Int32).toNatClampNeg + (rd g 0 5))) (1 : Int32).toNatClampNeg + (rd g 1 5))) (2 : Int32).toNatClampNeg + (rd g 2 5))) (3 : Int32).toNatClampNeg ((vp_updL (vp_updL (vp_updL f (0 : Int32).toNatClampNeg (f (0 : Int32).toNatClampNeg + (rd g 0 5))) (1 : Int32).toNatClampNeg ((vp_updL f (0 : Int32).toNatClampNeg (f (0 : Int32).toNatClampNeg + (rd g 0 5))) (1 : Int32).toNatClampNeg + (rd g 1 5))) (2 : Int32).toNatClampNeg ((vp_updL (vp_updL f (0 : Int32).toNatClampNeg (f (0 : Int32).toNatClampNeg + (rd g 0 5))) (1 : Int32).toNatClampNeg ((vp_updL f (0 : Int32).toNatClampNeg (f (0 : Int32).toNatClampNeg + (rd g 0 5))) (1 : Int32).toNatClampNeg + (rd g 1 5))) (2 : Int32).toNatClampNeg + (rd g 2 5))) (3 : Int32).toNatClampNeg + (rd g 3 5)))))))) y = some (.inl (G.2.1 1, 5, .inr (.inl g))) := (up_ne hyb).trans fy
  refine lv_iinc (v := 4) (lv' := [(2, .int 4), (0, .ref a), (1, .ref x)]) hx hb dX0_addAll_17 hl (k := 0) rfl (by decide) (by decide) rfl (fun ls hl => ?_)
  refine lv_goto (tgt := 2) hx hb dX0_addAll_20 (by decide) ?_
  refine lv_iload_n hx hb dX0_addAll_2 rfl (lv_at hl 0 rfl) ?_
  refine lv_iconst (v := 5) hx hb dX0_addAll_3 (by decide) ?_
  refine lv_icmp_ge (tgt := 23) hx hb dX0_addAll_4 (by decide) (fun c_4_25 => False.elim (by exact absurd c_4_25 (by decide))) (fun c_4_25 => ?_)
  refine lv_aload_n hx hb dX0_addAll_7 rfl (lv_at hl 1 rfl) ?_
  refine lv_iload_n hx hb dX0_addAll_8 rfl (lv_at hl 0 rfl) ?_
  refine lv_aload_n hx hb dX0_addAll_9 rfl (lv_at hl 2 rfl) ?_
  refine lv_iload_n hx hb dX0_addAll_10 rfl (lv_at hl 0 rfl) ?_
  refine k_l (va_runV (As := [.int 4]) (rest := [.int 4, .ref a]) ⟨hx, hb, hml, hown, hts⟩ (c_X0_amountOf l G (va_up M b (some (.inl (G.2.1 1, 5, .inr (.inl (vp_updL (vp_updL (vp_updL (vp_updL f (0 : Int32).toNatClampNeg (f (0 : Int32).toNatClampNeg + (rd g 0 5))) (1 : Int32).toNatClampNeg ((vp_updL f (0 : Int32).toNatClampNeg (f (0 : Int32).toNatClampNeg + (rd g 0 5))) (1 : Int32).toNatClampNeg + (rd g 1 5))) (2 : Int32).toNatClampNeg ((vp_updL (vp_updL f (0 : Int32).toNatClampNeg (f (0 : Int32).toNatClampNeg + (rd g 0 5))) (1 : Int32).toNatClampNeg ((vp_updL f (0 : Int32).toNatClampNeg (f (0 : Int32).toNatClampNeg + (rd g 0 5))) (1 : Int32).toNatClampNeg + (rd g 1 5))) (2 : Int32).toNatClampNeg + (rd g 2 5))) (3 : Int32).toNatClampNeg ((vp_updL (vp_updL (vp_updL f (0 : Int32).toNatClampNeg (f (0 : Int32).toNatClampNeg + (rd g 0 5))) (1 : Int32).toNatClampNeg ((vp_updL f (0 : Int32).toNatClampNeg (f (0 : Int32).toNatClampNeg + (rd g 0 5))) (1 : Int32).toNatClampNeg + (rd g 1 5))) (2 : Int32).toNatClampNeg ((vp_updL (vp_updL f (0 : Int32).toNatClampNeg (f (0 : Int32).toNatClampNeg + (rd g 0 5))) (1 : Int32).toNatClampNeg ((vp_updL f (0 : Int32).toNatClampNeg (f (0 : Int32).toNatClampNeg + (rd g 0 5))) (1 : Int32).toNatClampNeg + (rd g 1 5))) (2 : Int32).toNatClampNeg + (rd g 2 5))) (3 : Int32).toNatClampNeg + (rd g 3 5)))))))) x y g 4 f14_23 f14_24) (cwV 1 hts gX0_addAll_X0_amountOf rfl rfl rfl (by decide +kernel) ⟨Nat.le_of_ble_eq_true rfl, Nat.le_of_ble_eq_true rfl⟩) (preV_of hC hS hM f14_23 rfl) rfl rfl hl.1 rfl (lv_room (Nat.le_of_ble_eq_true rfl)) dX0_addAll_11 ⟨Nat.le_of_ble_eq_true rfl, Nat.le_of_ble_eq_true rfl⟩) hS (fun r11 u11 H locs hp11 hM hS => ?_)
  have hM : Hm G (va_up M b (some (.inl (G.2.1 1, 5, .inr (.inl (vp_updL (vp_updL (vp_updL (vp_updL f (0 : Int32).toNatClampNeg (f (0 : Int32).toNatClampNeg + (rd g 0 5))) (1 : Int32).toNatClampNeg ((vp_updL f (0 : Int32).toNatClampNeg (f (0 : Int32).toNatClampNeg + (rd g 0 5))) (1 : Int32).toNatClampNeg + (rd g 1 5))) (2 : Int32).toNatClampNeg ((vp_updL (vp_updL f (0 : Int32).toNatClampNeg (f (0 : Int32).toNatClampNeg + (rd g 0 5))) (1 : Int32).toNatClampNeg ((vp_updL f (0 : Int32).toNatClampNeg (f (0 : Int32).toNatClampNeg + (rd g 0 5))) (1 : Int32).toNatClampNeg + (rd g 1 5))) (2 : Int32).toNatClampNeg + (rd g 2 5))) (3 : Int32).toNatClampNeg ((vp_updL (vp_updL (vp_updL f (0 : Int32).toNatClampNeg (f (0 : Int32).toNatClampNeg + (rd g 0 5))) (1 : Int32).toNatClampNeg ((vp_updL f (0 : Int32).toNatClampNeg (f (0 : Int32).toNatClampNeg + (rd g 0 5))) (1 : Int32).toNatClampNeg + (rd g 1 5))) (2 : Int32).toNatClampNeg ((vp_updL (vp_updL f (0 : Int32).toNatClampNeg (f (0 : Int32).toNatClampNeg + (rd g 0 5))) (1 : Int32).toNatClampNeg ((vp_updL f (0 : Int32).toNatClampNeg (f (0 : Int32).toNatClampNeg + (rd g 0 5))) (1 : Int32).toNatClampNeg + (rd g 1 5))) (2 : Int32).toNatClampNeg + (rd g 2 5))) (3 : Int32).toNatClampNeg + (rd g 3 5)))))))) H := hM
  have hp11 : r11 = rd g 4 5 := hp11
  subst hp11
  refine k_v (va_runV (As := [.int 4, .long (rd g 4 5)]) (rest := []) ⟨hx, hb, hml, hown, hts⟩ (c_X0_add l G (va_up M b (some (.inl (G.2.1 1, 5, .inr (.inl (vp_updL (vp_updL (vp_updL (vp_updL f (0 : Int32).toNatClampNeg (f (0 : Int32).toNatClampNeg + (rd g 0 5))) (1 : Int32).toNatClampNeg ((vp_updL f (0 : Int32).toNatClampNeg (f (0 : Int32).toNatClampNeg + (rd g 0 5))) (1 : Int32).toNatClampNeg + (rd g 1 5))) (2 : Int32).toNatClampNeg ((vp_updL (vp_updL f (0 : Int32).toNatClampNeg (f (0 : Int32).toNatClampNeg + (rd g 0 5))) (1 : Int32).toNatClampNeg ((vp_updL f (0 : Int32).toNatClampNeg (f (0 : Int32).toNatClampNeg + (rd g 0 5))) (1 : Int32).toNatClampNeg + (rd g 1 5))) (2 : Int32).toNatClampNeg + (rd g 2 5))) (3 : Int32).toNatClampNeg ((vp_updL (vp_updL (vp_updL f (0 : Int32).toNatClampNeg (f (0 : Int32).toNatClampNeg + (rd g 0 5))) (1 : Int32).toNatClampNeg ((vp_updL f (0 : Int32).toNatClampNeg (f (0 : Int32).toNatClampNeg + (rd g 0 5))) (1 : Int32).toNatClampNeg + (rd g 1 5))) (2 : Int32).toNatClampNeg ((vp_updL (vp_updL f (0 : Int32).toNatClampNeg (f (0 : Int32).toNatClampNeg + (rd g 0 5))) (1 : Int32).toNatClampNeg ((vp_updL f (0 : Int32).toNatClampNeg (f (0 : Int32).toNatClampNeg + (rd g 0 5))) (1 : Int32).toNatClampNeg + (rd g 1 5))) (2 : Int32).toNatClampNeg + (rd g 2 5))) (3 : Int32).toNatClampNeg + (rd g 3 5)))))))) a b (vp_updL (vp_updL (vp_updL (vp_updL f (0 : Int32).toNatClampNeg (f (0 : Int32).toNatClampNeg + (rd g 0 5))) (1 : Int32).toNatClampNeg ((vp_updL f (0 : Int32).toNatClampNeg (f (0 : Int32).toNatClampNeg + (rd g 0 5))) (1 : Int32).toNatClampNeg + (rd g 1 5))) (2 : Int32).toNatClampNeg ((vp_updL (vp_updL f (0 : Int32).toNatClampNeg (f (0 : Int32).toNatClampNeg + (rd g 0 5))) (1 : Int32).toNatClampNeg ((vp_updL f (0 : Int32).toNatClampNeg (f (0 : Int32).toNatClampNeg + (rd g 0 5))) (1 : Int32).toNatClampNeg + (rd g 1 5))) (2 : Int32).toNatClampNeg + (rd g 2 5))) (3 : Int32).toNatClampNeg ((vp_updL (vp_updL (vp_updL f (0 : Int32).toNatClampNeg (f (0 : Int32).toNatClampNeg + (rd g 0 5))) (1 : Int32).toNatClampNeg ((vp_updL f (0 : Int32).toNatClampNeg (f (0 : Int32).toNatClampNeg + (rd g 0 5))) (1 : Int32).toNatClampNeg + (rd g 1 5))) (2 : Int32).toNatClampNeg ((vp_updL (vp_updL f (0 : Int32).toNatClampNeg (f (0 : Int32).toNatClampNeg + (rd g 0 5))) (1 : Int32).toNatClampNeg ((vp_updL f (0 : Int32).toNatClampNeg (f (0 : Int32).toNatClampNeg + (rd g 0 5))) (1 : Int32).toNatClampNeg + (rd g 1 5))) (2 : Int32).toNatClampNeg + (rd g 2 5))) (3 : Int32).toNatClampNeg + (rd g 3 5))) 4 (rd g 4 5) f14_21 f14_22 (vin_of (n := 5) 5 (by decide) (by decide))) (cwV 2 hts gX0_addAll_X0_add rfl rfl rfl (by decide +kernel) ⟨Nat.le_of_ble_eq_true rfl, Nat.le_of_ble_eq_true rfl⟩) (preV_of hC hS hM f14_21 rfl) rfl rfl hl.1 rfl (lv_room (Nat.le_of_ble_eq_true rfl)) dX0_addAll_14 ⟨Nat.le_of_ble_eq_true rfl, Nat.le_of_ble_eq_true rfl⟩) hS (fun u14 H locs hp14 hM hS => ?_)
  have hM : Hm G (va_up M b (some (.inl (G.2.1 1, 5, .inr (.inl (vp_updL (vp_updL (vp_updL (vp_updL (vp_updL f (0 : Int32).toNatClampNeg (f (0 : Int32).toNatClampNeg + (rd g 0 5))) (1 : Int32).toNatClampNeg ((vp_updL f (0 : Int32).toNatClampNeg (f (0 : Int32).toNatClampNeg + (rd g 0 5))) (1 : Int32).toNatClampNeg + (rd g 1 5))) (2 : Int32).toNatClampNeg ((vp_updL (vp_updL f (0 : Int32).toNatClampNeg (f (0 : Int32).toNatClampNeg + (rd g 0 5))) (1 : Int32).toNatClampNeg ((vp_updL f (0 : Int32).toNatClampNeg (f (0 : Int32).toNatClampNeg + (rd g 0 5))) (1 : Int32).toNatClampNeg + (rd g 1 5))) (2 : Int32).toNatClampNeg + (rd g 2 5))) (3 : Int32).toNatClampNeg ((vp_updL (vp_updL (vp_updL f (0 : Int32).toNatClampNeg (f (0 : Int32).toNatClampNeg + (rd g 0 5))) (1 : Int32).toNatClampNeg ((vp_updL f (0 : Int32).toNatClampNeg (f (0 : Int32).toNatClampNeg + (rd g 0 5))) (1 : Int32).toNatClampNeg + (rd g 1 5))) (2 : Int32).toNatClampNeg ((vp_updL (vp_updL f (0 : Int32).toNatClampNeg (f (0 : Int32).toNatClampNeg + (rd g 0 5))) (1 : Int32).toNatClampNeg ((vp_updL f (0 : Int32).toNatClampNeg (f (0 : Int32).toNatClampNeg + (rd g 0 5))) (1 : Int32).toNatClampNeg + (rd g 1 5))) (2 : Int32).toNatClampNeg + (rd g 2 5))) (3 : Int32).toNatClampNeg + (rd g 3 5))) (4 : Int32).toNatClampNeg ((vp_updL (vp_updL (vp_updL (vp_updL f (0 : Int32).toNatClampNeg (f (0 : Int32).toNatClampNeg + (rd g 0 5))) (1 : Int32).toNatClampNeg ((vp_updL f (0 : Int32).toNatClampNeg (f (0 : Int32).toNatClampNeg + (rd g 0 5))) (1 : Int32).toNatClampNeg + (rd g 1 5))) (2 : Int32).toNatClampNeg ((vp_updL (vp_updL f (0 : Int32).toNatClampNeg (f (0 : Int32).toNatClampNeg + (rd g 0 5))) (1 : Int32).toNatClampNeg ((vp_updL f (0 : Int32).toNatClampNeg (f (0 : Int32).toNatClampNeg + (rd g 0 5))) (1 : Int32).toNatClampNeg + (rd g 1 5))) (2 : Int32).toNatClampNeg + (rd g 2 5))) (3 : Int32).toNatClampNeg ((vp_updL (vp_updL (vp_updL f (0 : Int32).toNatClampNeg (f (0 : Int32).toNatClampNeg + (rd g 0 5))) (1 : Int32).toNatClampNeg ((vp_updL f (0 : Int32).toNatClampNeg (f (0 : Int32).toNatClampNeg + (rd g 0 5))) (1 : Int32).toNatClampNeg + (rd g 1 5))) (2 : Int32).toNatClampNeg ((vp_updL (vp_updL f (0 : Int32).toNatClampNeg (f (0 : Int32).toNatClampNeg + (rd g 0 5))) (1 : Int32).toNatClampNeg ((vp_updL f (0 : Int32).toNatClampNeg (f (0 : Int32).toNatClampNeg + (rd g 0 5))) (1 : Int32).toNatClampNeg + (rd g 1 5))) (2 : Int32).toNatClampNeg + (rd g 2 5))) (3 : Int32).toNatClampNeg + (rd g 3 5))) (4 : Int32).toNatClampNeg + (rd g 4 5)))))))) H := up2 ▸ hM
  have f14_27 : (va_up M b (some (.inl (G.2.1 1, 5, .inr (.inl (vp_updL (vp_updL (vp_updL (vp_updL (vp_updL f (0 : Int32).toNatClampNeg (f (0 : Int32).toNatClampNeg + (rd g 0 5))) (1 : Int32).toNatClampNeg ((vp_updL f (0 : Int32).toNatClampNeg (f (0 : Int32).toNatClampNeg + (rd g 0 5))) (1 : Int32).toNatClampNeg + (rd g 1 5))) (2 : Int32).toNatClampNeg ((vp_updL (vp_updL f (0 : Int32).toNatClampNeg (f (0 : Int32).toNatClampNeg + (rd g 0 5))) (1 : Int32).toNatClampNeg ((vp_updL f (0 : Int32).toNatClampNeg (f (0 : Int32).toNatClampNeg + (rd g 0 5))) (1 : Int32).toNatClampNeg + (rd g 1 5))) (2 : Int32).toNatClampNeg + (rd g 2 5))) (3 : Int32).toNatClampNeg ((vp_updL (vp_updL (vp_updL f (0 : Int32).toNatClampNeg (f (0 : Int32).toNatClampNeg + (rd g 0 5))) (1 : Int32).toNatClampNeg ((vp_updL f (0 : Int32).toNatClampNeg (f (0 : Int32).toNatClampNeg + (rd g 0 5))) (1 : Int32).toNatClampNeg + (rd g 1 5))) (2 : Int32).toNatClampNeg ((vp_updL (vp_updL f (0 : Int32).toNatClampNeg (f (0 : Int32).toNatClampNeg + (rd g 0 5))) (1 : Int32).toNatClampNeg ((vp_updL f (0 : Int32).toNatClampNeg (f (0 : Int32).toNatClampNeg + (rd g 0 5))) (1 : Int32).toNatClampNeg + (rd g 1 5))) (2 : Int32).toNatClampNeg + (rd g 2 5))) (3 : Int32).toNatClampNeg + (rd g 3 5))) (4 : Int32).toNatClampNeg ((vp_updL (vp_updL (vp_updL (vp_updL f (0 : Int32).toNatClampNeg (f (0 : Int32).toNatClampNeg + (rd g 0 5))) (1 : Int32).toNatClampNeg ((vp_updL f (0 : Int32).toNatClampNeg (f (0 : Int32).toNatClampNeg + (rd g 0 5))) (1 : Int32).toNatClampNeg + (rd g 1 5))) (2 : Int32).toNatClampNeg ((vp_updL (vp_updL f (0 : Int32).toNatClampNeg (f (0 : Int32).toNatClampNeg + (rd g 0 5))) (1 : Int32).toNatClampNeg ((vp_updL f (0 : Int32).toNatClampNeg (f (0 : Int32).toNatClampNeg + (rd g 0 5))) (1 : Int32).toNatClampNeg + (rd g 1 5))) (2 : Int32).toNatClampNeg + (rd g 2 5))) (3 : Int32).toNatClampNeg ((vp_updL (vp_updL (vp_updL f (0 : Int32).toNatClampNeg (f (0 : Int32).toNatClampNeg + (rd g 0 5))) (1 : Int32).toNatClampNeg ((vp_updL f (0 : Int32).toNatClampNeg (f (0 : Int32).toNatClampNeg + (rd g 0 5))) (1 : Int32).toNatClampNeg + (rd g 1 5))) (2 : Int32).toNatClampNeg ((vp_updL (vp_updL f (0 : Int32).toNatClampNeg (f (0 : Int32).toNatClampNeg + (rd g 0 5))) (1 : Int32).toNatClampNeg ((vp_updL f (0 : Int32).toNatClampNeg (f (0 : Int32).toNatClampNeg + (rd g 0 5))) (1 : Int32).toNatClampNeg + (rd g 1 5))) (2 : Int32).toNatClampNeg + (rd g 2 5))) (3 : Int32).toNatClampNeg + (rd g 3 5))) (4 : Int32).toNatClampNeg + (rd g 4 5)))))))) a = some (.inr (0, [.ref b])) := (up_ne (fun h9 => absurd (Eq.trans (Eq.trans (Eq.symm f14_21) (congrArg (va_up M b (some (.inl (G.2.1 1, 5, .inr (.inl (vp_updL (vp_updL (vp_updL (vp_updL f (0 : Int32).toNatClampNeg (f (0 : Int32).toNatClampNeg + (rd g 0 5))) (1 : Int32).toNatClampNeg ((vp_updL f (0 : Int32).toNatClampNeg (f (0 : Int32).toNatClampNeg + (rd g 0 5))) (1 : Int32).toNatClampNeg + (rd g 1 5))) (2 : Int32).toNatClampNeg ((vp_updL (vp_updL f (0 : Int32).toNatClampNeg (f (0 : Int32).toNatClampNeg + (rd g 0 5))) (1 : Int32).toNatClampNeg ((vp_updL f (0 : Int32).toNatClampNeg (f (0 : Int32).toNatClampNeg + (rd g 0 5))) (1 : Int32).toNatClampNeg + (rd g 1 5))) (2 : Int32).toNatClampNeg + (rd g 2 5))) (3 : Int32).toNatClampNeg ((vp_updL (vp_updL (vp_updL f (0 : Int32).toNatClampNeg (f (0 : Int32).toNatClampNeg + (rd g 0 5))) (1 : Int32).toNatClampNeg ((vp_updL f (0 : Int32).toNatClampNeg (f (0 : Int32).toNatClampNeg + (rd g 0 5))) (1 : Int32).toNatClampNeg + (rd g 1 5))) (2 : Int32).toNatClampNeg ((vp_updL (vp_updL f (0 : Int32).toNatClampNeg (f (0 : Int32).toNatClampNeg + (rd g 0 5))) (1 : Int32).toNatClampNeg ((vp_updL f (0 : Int32).toNatClampNeg (f (0 : Int32).toNatClampNeg + (rd g 0 5))) (1 : Int32).toNatClampNeg + (rd g 1 5))) (2 : Int32).toNatClampNeg + (rd g 2 5))) (3 : Int32).toNatClampNeg + (rd g 3 5)))))))) h9)) f14_22) (by simp))).trans fa
  have f14_28 : (va_up M b (some (.inl (G.2.1 1, 5, .inr (.inl (vp_updL (vp_updL (vp_updL (vp_updL (vp_updL f (0 : Int32).toNatClampNeg (f (0 : Int32).toNatClampNeg + (rd g 0 5))) (1 : Int32).toNatClampNeg ((vp_updL f (0 : Int32).toNatClampNeg (f (0 : Int32).toNatClampNeg + (rd g 0 5))) (1 : Int32).toNatClampNeg + (rd g 1 5))) (2 : Int32).toNatClampNeg ((vp_updL (vp_updL f (0 : Int32).toNatClampNeg (f (0 : Int32).toNatClampNeg + (rd g 0 5))) (1 : Int32).toNatClampNeg ((vp_updL f (0 : Int32).toNatClampNeg (f (0 : Int32).toNatClampNeg + (rd g 0 5))) (1 : Int32).toNatClampNeg + (rd g 1 5))) (2 : Int32).toNatClampNeg + (rd g 2 5))) (3 : Int32).toNatClampNeg ((vp_updL (vp_updL (vp_updL f (0 : Int32).toNatClampNeg (f (0 : Int32).toNatClampNeg + (rd g 0 5))) (1 : Int32).toNatClampNeg ((vp_updL f (0 : Int32).toNatClampNeg (f (0 : Int32).toNatClampNeg + (rd g 0 5))) (1 : Int32).toNatClampNeg + (rd g 1 5))) (2 : Int32).toNatClampNeg ((vp_updL (vp_updL f (0 : Int32).toNatClampNeg (f (0 : Int32).toNatClampNeg + (rd g 0 5))) (1 : Int32).toNatClampNeg ((vp_updL f (0 : Int32).toNatClampNeg (f (0 : Int32).toNatClampNeg + (rd g 0 5))) (1 : Int32).toNatClampNeg + (rd g 1 5))) (2 : Int32).toNatClampNeg + (rd g 2 5))) (3 : Int32).toNatClampNeg + (rd g 3 5))) (4 : Int32).toNatClampNeg ((vp_updL (vp_updL (vp_updL (vp_updL f (0 : Int32).toNatClampNeg (f (0 : Int32).toNatClampNeg + (rd g 0 5))) (1 : Int32).toNatClampNeg ((vp_updL f (0 : Int32).toNatClampNeg (f (0 : Int32).toNatClampNeg + (rd g 0 5))) (1 : Int32).toNatClampNeg + (rd g 1 5))) (2 : Int32).toNatClampNeg ((vp_updL (vp_updL f (0 : Int32).toNatClampNeg (f (0 : Int32).toNatClampNeg + (rd g 0 5))) (1 : Int32).toNatClampNeg ((vp_updL f (0 : Int32).toNatClampNeg (f (0 : Int32).toNatClampNeg + (rd g 0 5))) (1 : Int32).toNatClampNeg + (rd g 1 5))) (2 : Int32).toNatClampNeg + (rd g 2 5))) (3 : Int32).toNatClampNeg ((vp_updL (vp_updL (vp_updL f (0 : Int32).toNatClampNeg (f (0 : Int32).toNatClampNeg + (rd g 0 5))) (1 : Int32).toNatClampNeg ((vp_updL f (0 : Int32).toNatClampNeg (f (0 : Int32).toNatClampNeg + (rd g 0 5))) (1 : Int32).toNatClampNeg + (rd g 1 5))) (2 : Int32).toNatClampNeg ((vp_updL (vp_updL f (0 : Int32).toNatClampNeg (f (0 : Int32).toNatClampNeg + (rd g 0 5))) (1 : Int32).toNatClampNeg ((vp_updL f (0 : Int32).toNatClampNeg (f (0 : Int32).toNatClampNeg + (rd g 0 5))) (1 : Int32).toNatClampNeg + (rd g 1 5))) (2 : Int32).toNatClampNeg + (rd g 2 5))) (3 : Int32).toNatClampNeg + (rd g 3 5))) (4 : Int32).toNatClampNeg + (rd g 4 5)))))))) b = some (.inl (G.2.1 1, 5, .inr (.inl (vp_updL (vp_updL (vp_updL (vp_updL (vp_updL f (0 : Int32).toNatClampNeg (f (0 : Int32).toNatClampNeg + (rd g 0 5))) (1 : Int32).toNatClampNeg ((vp_updL f (0 : Int32).toNatClampNeg (f (0 : Int32).toNatClampNeg + (rd g 0 5))) (1 : Int32).toNatClampNeg + (rd g 1 5))) (2 : Int32).toNatClampNeg ((vp_updL (vp_updL f (0 : Int32).toNatClampNeg (f (0 : Int32).toNatClampNeg + (rd g 0 5))) (1 : Int32).toNatClampNeg ((vp_updL f (0 : Int32).toNatClampNeg (f (0 : Int32).toNatClampNeg + (rd g 0 5))) (1 : Int32).toNatClampNeg + (rd g 1 5))) (2 : Int32).toNatClampNeg + (rd g 2 5))) (3 : Int32).toNatClampNeg ((vp_updL (vp_updL (vp_updL f (0 : Int32).toNatClampNeg (f (0 : Int32).toNatClampNeg + (rd g 0 5))) (1 : Int32).toNatClampNeg ((vp_updL f (0 : Int32).toNatClampNeg (f (0 : Int32).toNatClampNeg + (rd g 0 5))) (1 : Int32).toNatClampNeg + (rd g 1 5))) (2 : Int32).toNatClampNeg ((vp_updL (vp_updL f (0 : Int32).toNatClampNeg (f (0 : Int32).toNatClampNeg + (rd g 0 5))) (1 : Int32).toNatClampNeg ((vp_updL f (0 : Int32).toNatClampNeg (f (0 : Int32).toNatClampNeg + (rd g 0 5))) (1 : Int32).toNatClampNeg + (rd g 1 5))) (2 : Int32).toNatClampNeg + (rd g 2 5))) (3 : Int32).toNatClampNeg + (rd g 3 5))) (4 : Int32).toNatClampNeg ((vp_updL (vp_updL (vp_updL (vp_updL f (0 : Int32).toNatClampNeg (f (0 : Int32).toNatClampNeg + (rd g 0 5))) (1 : Int32).toNatClampNeg ((vp_updL f (0 : Int32).toNatClampNeg (f (0 : Int32).toNatClampNeg + (rd g 0 5))) (1 : Int32).toNatClampNeg + (rd g 1 5))) (2 : Int32).toNatClampNeg ((vp_updL (vp_updL f (0 : Int32).toNatClampNeg (f (0 : Int32).toNatClampNeg + (rd g 0 5))) (1 : Int32).toNatClampNeg ((vp_updL f (0 : Int32).toNatClampNeg (f (0 : Int32).toNatClampNeg + (rd g 0 5))) (1 : Int32).toNatClampNeg + (rd g 1 5))) (2 : Int32).toNatClampNeg + (rd g 2 5))) (3 : Int32).toNatClampNeg ((vp_updL (vp_updL (vp_updL f (0 : Int32).toNatClampNeg (f (0 : Int32).toNatClampNeg + (rd g 0 5))) (1 : Int32).toNatClampNeg ((vp_updL f (0 : Int32).toNatClampNeg (f (0 : Int32).toNatClampNeg + (rd g 0 5))) (1 : Int32).toNatClampNeg + (rd g 1 5))) (2 : Int32).toNatClampNeg ((vp_updL (vp_updL f (0 : Int32).toNatClampNeg (f (0 : Int32).toNatClampNeg + (rd g 0 5))) (1 : Int32).toNatClampNeg ((vp_updL f (0 : Int32).toNatClampNeg (f (0 : Int32).toNatClampNeg + (rd g 0 5))) (1 : Int32).toNatClampNeg + (rd g 1 5))) (2 : Int32).toNatClampNeg + (rd g 2 5))) (3 : Int32).toNatClampNeg + (rd g 3 5))) (4 : Int32).toNatClampNeg + (rd g 4 5)))))) := up_eq
  have f14_29 : (va_up M b (some (.inl (G.2.1 1, 5, .inr (.inl (vp_updL (vp_updL (vp_updL (vp_updL (vp_updL f (0 : Int32).toNatClampNeg (f (0 : Int32).toNatClampNeg + (rd g 0 5))) (1 : Int32).toNatClampNeg ((vp_updL f (0 : Int32).toNatClampNeg (f (0 : Int32).toNatClampNeg + (rd g 0 5))) (1 : Int32).toNatClampNeg + (rd g 1 5))) (2 : Int32).toNatClampNeg ((vp_updL (vp_updL f (0 : Int32).toNatClampNeg (f (0 : Int32).toNatClampNeg + (rd g 0 5))) (1 : Int32).toNatClampNeg ((vp_updL f (0 : Int32).toNatClampNeg (f (0 : Int32).toNatClampNeg + (rd g 0 5))) (1 : Int32).toNatClampNeg + (rd g 1 5))) (2 : Int32).toNatClampNeg + (rd g 2 5))) (3 : Int32).toNatClampNeg ((vp_updL (vp_updL (vp_updL f (0 : Int32).toNatClampNeg (f (0 : Int32).toNatClampNeg + (rd g 0 5))) (1 : Int32).toNatClampNeg ((vp_updL f (0 : Int32).toNatClampNeg (f (0 : Int32).toNatClampNeg + (rd g 0 5))) (1 : Int32).toNatClampNeg + (rd g 1 5))) (2 : Int32).toNatClampNeg ((vp_updL (vp_updL f (0 : Int32).toNatClampNeg (f (0 : Int32).toNatClampNeg + (rd g 0 5))) (1 : Int32).toNatClampNeg ((vp_updL f (0 : Int32).toNatClampNeg (f (0 : Int32).toNatClampNeg + (rd g 0 5))) (1 : Int32).toNatClampNeg + (rd g 1 5))) (2 : Int32).toNatClampNeg + (rd g 2 5))) (3 : Int32).toNatClampNeg + (rd g 3 5))) (4 : Int32).toNatClampNeg ((vp_updL (vp_updL (vp_updL (vp_updL f (0 : Int32).toNatClampNeg (f (0 : Int32).toNatClampNeg + (rd g 0 5))) (1 : Int32).toNatClampNeg ((vp_updL f (0 : Int32).toNatClampNeg (f (0 : Int32).toNatClampNeg + (rd g 0 5))) (1 : Int32).toNatClampNeg + (rd g 1 5))) (2 : Int32).toNatClampNeg ((vp_updL (vp_updL f (0 : Int32).toNatClampNeg (f (0 : Int32).toNatClampNeg + (rd g 0 5))) (1 : Int32).toNatClampNeg ((vp_updL f (0 : Int32).toNatClampNeg (f (0 : Int32).toNatClampNeg + (rd g 0 5))) (1 : Int32).toNatClampNeg + (rd g 1 5))) (2 : Int32).toNatClampNeg + (rd g 2 5))) (3 : Int32).toNatClampNeg ((vp_updL (vp_updL (vp_updL f (0 : Int32).toNatClampNeg (f (0 : Int32).toNatClampNeg + (rd g 0 5))) (1 : Int32).toNatClampNeg ((vp_updL f (0 : Int32).toNatClampNeg (f (0 : Int32).toNatClampNeg + (rd g 0 5))) (1 : Int32).toNatClampNeg + (rd g 1 5))) (2 : Int32).toNatClampNeg ((vp_updL (vp_updL f (0 : Int32).toNatClampNeg (f (0 : Int32).toNatClampNeg + (rd g 0 5))) (1 : Int32).toNatClampNeg ((vp_updL f (0 : Int32).toNatClampNeg (f (0 : Int32).toNatClampNeg + (rd g 0 5))) (1 : Int32).toNatClampNeg + (rd g 1 5))) (2 : Int32).toNatClampNeg + (rd g 2 5))) (3 : Int32).toNatClampNeg + (rd g 3 5))) (4 : Int32).toNatClampNeg + (rd g 4 5)))))))) x = some (.inr (0, [.ref y])) := (up_ne (fun h9 => absurd (Eq.trans (Eq.trans (Eq.symm f14_23) (congrArg (va_up M b (some (.inl (G.2.1 1, 5, .inr (.inl (vp_updL (vp_updL (vp_updL (vp_updL f (0 : Int32).toNatClampNeg (f (0 : Int32).toNatClampNeg + (rd g 0 5))) (1 : Int32).toNatClampNeg ((vp_updL f (0 : Int32).toNatClampNeg (f (0 : Int32).toNatClampNeg + (rd g 0 5))) (1 : Int32).toNatClampNeg + (rd g 1 5))) (2 : Int32).toNatClampNeg ((vp_updL (vp_updL f (0 : Int32).toNatClampNeg (f (0 : Int32).toNatClampNeg + (rd g 0 5))) (1 : Int32).toNatClampNeg ((vp_updL f (0 : Int32).toNatClampNeg (f (0 : Int32).toNatClampNeg + (rd g 0 5))) (1 : Int32).toNatClampNeg + (rd g 1 5))) (2 : Int32).toNatClampNeg + (rd g 2 5))) (3 : Int32).toNatClampNeg ((vp_updL (vp_updL (vp_updL f (0 : Int32).toNatClampNeg (f (0 : Int32).toNatClampNeg + (rd g 0 5))) (1 : Int32).toNatClampNeg ((vp_updL f (0 : Int32).toNatClampNeg (f (0 : Int32).toNatClampNeg + (rd g 0 5))) (1 : Int32).toNatClampNeg + (rd g 1 5))) (2 : Int32).toNatClampNeg ((vp_updL (vp_updL f (0 : Int32).toNatClampNeg (f (0 : Int32).toNatClampNeg + (rd g 0 5))) (1 : Int32).toNatClampNeg ((vp_updL f (0 : Int32).toNatClampNeg (f (0 : Int32).toNatClampNeg + (rd g 0 5))) (1 : Int32).toNatClampNeg + (rd g 1 5))) (2 : Int32).toNatClampNeg + (rd g 2 5))) (3 : Int32).toNatClampNeg + (rd g 3 5)))))))) h9)) f14_22) (by simp))).trans fx
  have f14_30 : (va_up M b (some (.inl (G.2.1 1, 5, .inr (.inl (vp_updL (vp_updL (vp_updL (vp_updL (vp_updL f (0 : Int32).toNatClampNeg (f (0 : Int32).toNatClampNeg + (rd g 0 5))) (1 : Int32).toNatClampNeg ((vp_updL f (0 : Int32).toNatClampNeg (f (0 : Int32).toNatClampNeg + (rd g 0 5))) (1 : Int32).toNatClampNeg + (rd g 1 5))) (2 : Int32).toNatClampNeg ((vp_updL (vp_updL f (0 : Int32).toNatClampNeg (f (0 : Int32).toNatClampNeg + (rd g 0 5))) (1 : Int32).toNatClampNeg ((vp_updL f (0 : Int32).toNatClampNeg (f (0 : Int32).toNatClampNeg + (rd g 0 5))) (1 : Int32).toNatClampNeg + (rd g 1 5))) (2 : Int32).toNatClampNeg + (rd g 2 5))) (3 : Int32).toNatClampNeg ((vp_updL (vp_updL (vp_updL f (0 : Int32).toNatClampNeg (f (0 : Int32).toNatClampNeg + (rd g 0 5))) (1 : Int32).toNatClampNeg ((vp_updL f (0 : Int32).toNatClampNeg (f (0 : Int32).toNatClampNeg + (rd g 0 5))) (1 : Int32).toNatClampNeg + (rd g 1 5))) (2 : Int32).toNatClampNeg ((vp_updL (vp_updL f (0 : Int32).toNatClampNeg (f (0 : Int32).toNatClampNeg + (rd g 0 5))) (1 : Int32).toNatClampNeg ((vp_updL f (0 : Int32).toNatClampNeg (f (0 : Int32).toNatClampNeg + (rd g 0 5))) (1 : Int32).toNatClampNeg + (rd g 1 5))) (2 : Int32).toNatClampNeg + (rd g 2 5))) (3 : Int32).toNatClampNeg + (rd g 3 5))) (4 : Int32).toNatClampNeg ((vp_updL (vp_updL (vp_updL (vp_updL f (0 : Int32).toNatClampNeg (f (0 : Int32).toNatClampNeg + (rd g 0 5))) (1 : Int32).toNatClampNeg ((vp_updL f (0 : Int32).toNatClampNeg (f (0 : Int32).toNatClampNeg + (rd g 0 5))) (1 : Int32).toNatClampNeg + (rd g 1 5))) (2 : Int32).toNatClampNeg ((vp_updL (vp_updL f (0 : Int32).toNatClampNeg (f (0 : Int32).toNatClampNeg + (rd g 0 5))) (1 : Int32).toNatClampNeg ((vp_updL f (0 : Int32).toNatClampNeg (f (0 : Int32).toNatClampNeg + (rd g 0 5))) (1 : Int32).toNatClampNeg + (rd g 1 5))) (2 : Int32).toNatClampNeg + (rd g 2 5))) (3 : Int32).toNatClampNeg ((vp_updL (vp_updL (vp_updL f (0 : Int32).toNatClampNeg (f (0 : Int32).toNatClampNeg + (rd g 0 5))) (1 : Int32).toNatClampNeg ((vp_updL f (0 : Int32).toNatClampNeg (f (0 : Int32).toNatClampNeg + (rd g 0 5))) (1 : Int32).toNatClampNeg + (rd g 1 5))) (2 : Int32).toNatClampNeg ((vp_updL (vp_updL f (0 : Int32).toNatClampNeg (f (0 : Int32).toNatClampNeg + (rd g 0 5))) (1 : Int32).toNatClampNeg ((vp_updL f (0 : Int32).toNatClampNeg (f (0 : Int32).toNatClampNeg + (rd g 0 5))) (1 : Int32).toNatClampNeg + (rd g 1 5))) (2 : Int32).toNatClampNeg + (rd g 2 5))) (3 : Int32).toNatClampNeg + (rd g 3 5))) (4 : Int32).toNatClampNeg + (rd g 4 5)))))))) y = some (.inl (G.2.1 1, 5, .inr (.inl g))) := (up_ne hyb).trans fy
  refine lv_iinc (v := 5) (lv' := [(2, .int 5), (0, .ref a), (1, .ref x)]) hx hb dX0_addAll_17 hl (k := 0) rfl (by decide) (by decide) rfl (fun ls hl => ?_)
  refine lv_goto (tgt := 2) hx hb dX0_addAll_20 (by decide) ?_
  refine lv_iload_n hx hb dX0_addAll_2 rfl (lv_at hl 0 rfl) ?_
  refine lv_iconst (v := 5) hx hb dX0_addAll_3 (by decide) ?_
  refine lv_icmp_ge (tgt := 23) hx hb dX0_addAll_4 (by decide) (fun c_4_31 => ?_) (fun c_4_31 => False.elim (by exact c_4_31 (by decide)))
  have e9 : (vp_updL (vp_updL (vp_updL (vp_updL (vp_updL f (0 : Int32).toNatClampNeg (f (0 : Int32).toNatClampNeg + (rd g 0 5))) (1 : Int32).toNatClampNeg ((vp_updL f (0 : Int32).toNatClampNeg (f (0 : Int32).toNatClampNeg + (rd g 0 5))) (1 : Int32).toNatClampNeg + (rd g 1 5))) (2 : Int32).toNatClampNeg ((vp_updL (vp_updL f (0 : Int32).toNatClampNeg (f (0 : Int32).toNatClampNeg + (rd g 0 5))) (1 : Int32).toNatClampNeg ((vp_updL f (0 : Int32).toNatClampNeg (f (0 : Int32).toNatClampNeg + (rd g 0 5))) (1 : Int32).toNatClampNeg + (rd g 1 5))) (2 : Int32).toNatClampNeg + (rd g 2 5))) (3 : Int32).toNatClampNeg ((vp_updL (vp_updL (vp_updL f (0 : Int32).toNatClampNeg (f (0 : Int32).toNatClampNeg + (rd g 0 5))) (1 : Int32).toNatClampNeg ((vp_updL f (0 : Int32).toNatClampNeg (f (0 : Int32).toNatClampNeg + (rd g 0 5))) (1 : Int32).toNatClampNeg + (rd g 1 5))) (2 : Int32).toNatClampNeg ((vp_updL (vp_updL f (0 : Int32).toNatClampNeg (f (0 : Int32).toNatClampNeg + (rd g 0 5))) (1 : Int32).toNatClampNeg ((vp_updL f (0 : Int32).toNatClampNeg (f (0 : Int32).toNatClampNeg + (rd g 0 5))) (1 : Int32).toNatClampNeg + (rd g 1 5))) (2 : Int32).toNatClampNeg + (rd g 2 5))) (3 : Int32).toNatClampNeg + (rd g 3 5))) (4 : Int32).toNatClampNeg ((vp_updL (vp_updL (vp_updL (vp_updL f (0 : Int32).toNatClampNeg (f (0 : Int32).toNatClampNeg + (rd g 0 5))) (1 : Int32).toNatClampNeg ((vp_updL f (0 : Int32).toNatClampNeg (f (0 : Int32).toNatClampNeg + (rd g 0 5))) (1 : Int32).toNatClampNeg + (rd g 1 5))) (2 : Int32).toNatClampNeg ((vp_updL (vp_updL f (0 : Int32).toNatClampNeg (f (0 : Int32).toNatClampNeg + (rd g 0 5))) (1 : Int32).toNatClampNeg ((vp_updL f (0 : Int32).toNatClampNeg (f (0 : Int32).toNatClampNeg + (rd g 0 5))) (1 : Int32).toNatClampNeg + (rd g 1 5))) (2 : Int32).toNatClampNeg + (rd g 2 5))) (3 : Int32).toNatClampNeg ((vp_updL (vp_updL (vp_updL f (0 : Int32).toNatClampNeg (f (0 : Int32).toNatClampNeg + (rd g 0 5))) (1 : Int32).toNatClampNeg ((vp_updL f (0 : Int32).toNatClampNeg (f (0 : Int32).toNatClampNeg + (rd g 0 5))) (1 : Int32).toNatClampNeg + (rd g 1 5))) (2 : Int32).toNatClampNeg ((vp_updL (vp_updL f (0 : Int32).toNatClampNeg (f (0 : Int32).toNatClampNeg + (rd g 0 5))) (1 : Int32).toNatClampNeg ((vp_updL f (0 : Int32).toNatClampNeg (f (0 : Int32).toNatClampNeg + (rd g 0 5))) (1 : Int32).toNatClampNeg + (rd g 1 5))) (2 : Int32).toNatClampNeg + (rd g 2 5))) (3 : Int32).toNatClampNeg + (rd g 3 5))) (4 : Int32).toNatClampNeg + (rd g 4 5))) = addrow f g := addrow_eq2 f g
  rw [e9] at hM
  exact (r_v hx hb hr hlocks hS () trivial hM (Nat.le_of_ble_eq_true rfl) (Nat.le_of_ble_eq_true rfl) dX0_addAll_23)
set_option maxHeartbeats 4000000 in
set_option maxRecDepth 100000 in
theorem c_X3_netAmountsOf (l : Launch) (G : Gx) (M : Mp) (a : Nat) (li : Int32) (na ba : Nat) (g : Nat → Option Nat) (d : Int32) (fa : M a = some (.inr (3, [.int li, .ref na, .ref ba]))) (fn : M na = some (.inl (G.2.1 5, 1002, .inr (.inr (.inr (.inr g)))))) : Met l yX3_netAmountsOf wsX3_netAmountsOf ({ frames := 1, cells := 0, slots := 0, locals := 21 }) (Cv G M [.ref a, .int d]) (va_Qq (S := Unit) (fun r _ => r = rq g d 1002) (Bm G (fun _ => M)) (AG G)) (0) (0) (AG G) := by
  refine m_met [.ref a, .int d] [(0, .ref a), (1, .int d)] (by decide) rfl rfl (Nat.le_of_ble_eq_true rfl) ?_
  intro p e s m below meth c ls hx hb hr hml hown hts hlocks hin hC hM hl hS
  refine lv_iload_n hx hb dX3_netAmountsOf_0 rfl (lv_at hl 1 rfl) ?_
  refine lv_aload_n hx hb dX3_netAmountsOf_1 rfl (lv_at hl 0 rfl) ?_
  refine m_get (ci := 3) (v := .ref na) (C := RX3) (T := TX3) (N := 3) (a := a) hx hb hts (by decide +kernel) hown hC hM fa rfl 1 (by decide) (hts (.fieldLink RX3 18 "Forwardroll$Customer" "netAmounts" "[LForwardroll$Amounts;") (by decide +kernel)) (fun _ h9 => h9) rfl dX3_netAmountsOf_2 ?_
  refine m_alen (a := na) hx hb hC hM 5 rfl fn (v := 1002) rfl dX3_netAmountsOf_5 ?_
  refine k_i (va_runSN (As := [.int d, .int 1002]) (rest := []) ⟨hx, hb, hml, hown, hts⟩ (c_X5_isIndex l G M d 1002) ⟨va_cnB 2 hts gX3_netAmountsOf_X5_isIndex_n27 rfl rfl rfl (hC.w 18 rfl) (hts (.initialized RX5) (by decide +kernel)) (by decide +kernel) ⟨Nat.le_of_ble_eq_true rfl, Nat.le_of_ble_eq_true rfl⟩, hts (.static yX5_isIndex) (by decide +kernel), trivial⟩ (preS_of hC hS hM) rfl rfl hl.1 rfl (lv_room (Nat.le_of_ble_eq_true rfl)) dX3_netAmountsOf_6 ⟨Nat.le_of_ble_eq_true rfl, Nat.le_of_ble_eq_true rfl⟩) hS (fun r6 u6 H locs hp6 hM hS => ?_)
  have hM : Hm G M H := hM
  have hp6 : r6 = ixb d 1002 := hp6
  subst hp6
  refine lv_if_eq (tgt := 21) hx hb dX3_netAmountsOf_9 (by decide) (fun c_9 => ?_) (fun c_9 => ?_)
  · refine lv_null hx hb dX3_netAmountsOf_21 ?_
    exact (r_q hx hb hr hlocks hS none rfl () (by unfold rq; rw [if_neg (ixb_f c_9)]) hM (Nat.le_of_ble_eq_true rfl) (Nat.le_of_ble_eq_true rfl) dX3_netAmountsOf_22)
  · refine lv_aload_n hx hb dX3_netAmountsOf_12 rfl (lv_at hl 0 rfl) ?_
    refine m_get (ci := 3) (v := .ref na) (C := RX3) (T := TX3) (N := 3) (a := a) hx hb hts (by decide +kernel) hown hC hM fa rfl 1 (by decide) (hts (.fieldLink RX3 18 "Forwardroll$Customer" "netAmounts" "[LForwardroll$Amounts;") (by decide +kernel)) (fun _ h9 => h9) rfl dX3_netAmountsOf_13 ?_
    refine lv_iload_n hx hb dX3_netAmountsOf_16 rfl (lv_at hl 1 rfl) ?_
    refine m_aldq (a := na) hx hb hC hM 5 rfl fn (vin_of 1002 (ixb_t c_9) (by decide)) dX3_netAmountsOf_17 ?_
    refine lv_goto (tgt := 22) hx hb dX3_netAmountsOf_18 (by decide) ?_
    exact (r_q hx hb hr hlocks hS (g d.toNatClampNeg) rfl () (by unfold rq; rw [if_pos (ixb_t c_9)]) hM (Nat.le_of_ble_eq_true rfl) (Nat.le_of_ble_eq_true rfl) dX3_netAmountsOf_22)
set_option maxHeartbeats 4000000 in
set_option maxRecDepth 100000 in
theorem c_X3_netAmount (l : Launch) (G : Gx) (M : Mp) (a : Nat) (li : Int32) (na ba : Nat) (g : Nat → Option Nat) (k d : Int32) (rw9 : Nat → Nat) (F : Nat → Int64) (fa : M a = some (.inr (3, [.int li, .ref na, .ref ba]))) (fn : M na = some (.inl (G.2.1 5, 1002, .inr (.inr (.inr (.inr g)))))) (hrow : ∀ x9, rq g d 1002 = some x9 → M x9 = some (.inr (0, [.ref (rw9 x9)])) ∧ M (rw9 x9) = some (.inl (G.2.1 1, 5, .inr (.inl F)))) : Met l yX3_netAmount wsX3_netAmount ({ frames := 2, cells := 0, slots := 0, locals := 42 }) (Cv G M [.ref a, .int k, .int d]) (va_Ql (S := Unit) (fun r _ => r = if (rq g d 1002).isSome = true then rd F k 5 else 0) (Bm G (fun _ => M)) (AG G)) (0) (0) (AG G) := by
  refine m_met [.ref a, .int k, .int d] [(0, .ref a), (1, .int k), (2, .int d)] (by decide) rfl rfl (Nat.le_of_ble_eq_true rfl) ?_
  intro p e s m below meth c ls hx hb hr hml hown hts hlocks hin hC hM hl hS
  refine lv_aload_n hx hb dX3_netAmount_0 rfl (lv_at hl 0 rfl) ?_
  refine lv_iload_n hx hb dX3_netAmount_1 rfl (lv_at hl 2 rfl) ?_
  refine k_q (va_runV (As := [.int d]) (rest := []) ⟨hx, hb, hml, hown, hts⟩ (c_X3_netAmountsOf l G M a li na ba g d fa fn) (cwV 1 hts gX3_netAmount_X3_netAmountsOf rfl rfl rfl (by decide +kernel) ⟨Nat.le_of_ble_eq_true rfl, Nat.le_of_ble_eq_true rfl⟩) (preV_of hC hS hM fa rfl) rfl rfl hl.1 rfl (lv_room (Nat.le_of_ble_eq_true rfl)) dX3_netAmount_2 ⟨Nat.le_of_ble_eq_true rfl, Nat.le_of_ble_eq_true rfl⟩) hS (fun r2 u2 H locs hp2 hM hS => ?_)
  have hM : Hm G M H := hM
  subst hp2
  cases hq9 : rq g d 1002 with
  | none =>
    skip
    refine lv_astore_nN (lv' := [(3, .null), (0, .ref a), (1, .int k), (2, .int d)]) hx hb dX3_netAmount_5 rfl hl (by decide) rfl (fun ls hl => ?_)
    refine lv_aload_nN hx hb dX3_netAmount_6 rfl (lv_at hl 0 rfl) ?_
    refine lv_ifnonnullN hx hb dX3_netAmount_7 ?_
    refine lv_lconst (v := 0) hx hb dX3_netAmount_10 (by decide) ?_
    refine lv_goto (tgt := 19) hx hb dX3_netAmount_11 (by decide) ?_
    exact (r_l hx hb hr hlocks hS (v := 0) () rfl hM (Nat.le_of_ble_eq_true rfl) (Nat.le_of_ble_eq_true rfl) dX3_netAmount_19)
  | some x9 =>
    obtain ⟨fx9, fy9⟩ := hrow x9 hq9
    refine lv_astore_n (lv' := [(3, .ref x9), (0, .ref a), (1, .int k), (2, .int d)]) hx hb dX3_netAmount_5 rfl hl (by decide) rfl (fun ls hl => ?_)
    refine lv_aload_n hx hb dX3_netAmount_6 rfl (lv_at hl 0 rfl) ?_
    refine lv_ifnonnull (tgt := 14) hx hb dX3_netAmount_7 (by decide) ?_
    refine lv_aload_n hx hb dX3_netAmount_14 rfl (lv_at hl 0 rfl) ?_
    refine lv_iload_n hx hb dX3_netAmount_15 rfl (lv_at hl 2 rfl) ?_
    refine k_l (va_runV (As := [.int k]) (rest := []) ⟨hx, hb, hml, hown, hts⟩ (c_X0_amountOf l G M x9 (rw9 x9) F k fx9 fy9) (cwV 1 hts gX3_netAmount_X0_amountOf rfl rfl rfl (by decide +kernel) ⟨Nat.le_of_ble_eq_true rfl, Nat.le_of_ble_eq_true rfl⟩) (preV_of hC hS hM fx9 rfl) rfl rfl hl.1 rfl (lv_room (Nat.le_of_ble_eq_true rfl)) dX3_netAmount_16 ⟨Nat.le_of_ble_eq_true rfl, Nat.le_of_ble_eq_true rfl⟩) hS (fun r16 u16 H locs hp16 hM hS => ?_)
    have hM : Hm G M H := hM
    have hp16 : r16 = rd F k 5 := hp16
    subst hp16
    exact (r_l hx hb hr hlocks hS (v := rd F k 5) () rfl hM (Nat.le_of_ble_eq_true rfl) (Nat.le_of_ble_eq_true rfl) dX3_netAmount_19)
set_option maxHeartbeats 4000000 in
set_option maxRecDepth 100000 in
theorem c_X3_settle (l : Launch) (G : Gx) (M : Mp) (a : Nat) (li : Int32) (na ba bl : Nat) (g : Nat → Option Nat) (h : Nat → Int64) (d : Int32) (rw9 : Nat → Nat) (F : Nat → Int64) (fa : M a = some (.inr (3, [.int li, .ref na, .ref ba]))) (fn : M na = some (.inl (G.2.1 5, 1002, .inr (.inr (.inr (.inr g)))))) (fo : M ba = some (.inr (0, [.ref bl]))) (fl : M bl = some (.inl (G.2.1 1, 5, .inr (.inl h)))) (hrowb : ∀ x9, rq g d 1002 = some x9 → M x9 = some (.inr (0, [.ref (rw9 x9)])) ∧ M (rw9 x9) = some (.inl (G.2.1 1, 5, .inr (.inl F))) ∧ rw9 x9 ≠ bl) : Met l yX3_settle wsX3_settle ({ frames := 3, cells := 0, slots := 0, locals := 66 }) (Cv G M [.ref a, .int d]) (va_Qv (S := Unit) (fun _ => True) (Bm G (fun _ => if (rq g d 1002).isSome = true then va_up M bl (some (.inl (G.2.1 1, 5, .inr (.inl (addrow h F))))) else M)) (AG G)) (0) (0) (AG G) := by
  refine m_met [.ref a, .int d] [(0, .ref a), (1, .int d)] (by decide) rfl rfl (Nat.le_of_ble_eq_true rfl) ?_
  intro p e s m below meth c ls hx hb hr hml hown hts hlocks hin hC hM hl hS
  refine lv_aload_n hx hb dX3_settle_0 rfl (lv_at hl 0 rfl) ?_
  refine lv_iload_n hx hb dX3_settle_1 rfl (lv_at hl 1 rfl) ?_
  refine k_q (va_runV (As := [.int d]) (rest := []) ⟨hx, hb, hml, hown, hts⟩ (c_X3_netAmountsOf l G M a li na ba g d fa fn) (cwV 1 hts gX3_settle_X3_netAmountsOf rfl rfl rfl (by decide +kernel) ⟨Nat.le_of_ble_eq_true rfl, Nat.le_of_ble_eq_true rfl⟩) (preV_of hC hS hM fa rfl) rfl rfl hl.1 rfl (lv_room (Nat.le_of_ble_eq_true rfl)) dX3_settle_2 ⟨Nat.le_of_ble_eq_true rfl, Nat.le_of_ble_eq_true rfl⟩) hS (fun r2 u2 H locs hp2 hM hS => ?_)
  have hM : Hm G M H := hM
  subst hp2
  cases hq9 : rq g d 1002 with
  | none =>
    skip
    refine lv_astore_nN (lv' := [(2, .null), (0, .ref a), (1, .int d)]) hx hb dX3_settle_5 rfl hl (by decide) rfl (fun ls hl => ?_)
    refine lv_aload_nN hx hb dX3_settle_6 rfl (lv_at hl 0 rfl) ?_
    refine lv_ifnullN (tgt := 18) hx hb dX3_settle_7 (by decide) ?_
    exact (r_v hx hb hr hlocks hS () trivial hM (Nat.le_of_ble_eq_true rfl) (Nat.le_of_ble_eq_true rfl) dX3_settle_18)
  | some x9 =>
    obtain ⟨fx9, fy9, hyb⟩ := hrowb x9 hq9
    refine lv_astore_n (lv' := [(2, .ref x9), (0, .ref a), (1, .int d)]) hx hb dX3_settle_5 rfl hl (by decide) rfl (fun ls hl => ?_)
    refine lv_aload_n hx hb dX3_settle_6 rfl (lv_at hl 0 rfl) ?_
    refine lv_ifnull hx hb dX3_settle_7 ?_
    refine lv_aload_n hx hb dX3_settle_10 rfl (lv_at hl 1 rfl) ?_
    refine m_get (ci := 3) (v := .ref ba) (C := RX3) (T := TX3) (N := 3) (a := a) hx hb hts (by decide +kernel) hown hC hM fa rfl 2 (by decide) (hts (.fieldLink RX3 23 "Forwardroll$Customer" "balances" "LForwardroll$Amounts;") (by decide +kernel)) (fun _ h9 => h9) rfl dX3_settle_11 ?_
    refine lv_aload_n hx hb dX3_settle_14 rfl (lv_at hl 0 rfl) ?_
    refine k_v (va_runV (As := [.ref x9]) (rest := []) ⟨hx, hb, hml, hown, hts⟩ (c_X0_addAll l G M ba bl x9 (rw9 x9) h F fo fl fx9 fy9 hyb) (cwV 1 hts gX3_settle_X0_addAll rfl rfl rfl (by decide +kernel) ⟨Nat.le_of_ble_eq_true rfl, Nat.le_of_ble_eq_true rfl⟩) (preV_of hC hS hM fo rfl) rfl rfl hl.1 rfl (lv_room (Nat.le_of_ble_eq_true rfl)) dX3_settle_15 ⟨Nat.le_of_ble_eq_true rfl, Nat.le_of_ble_eq_true rfl⟩) hS (fun u15 H locs hp15 hM hS => ?_)
    have hM : Hm G (va_up M bl (some (.inl (G.2.1 1, 5, .inr (.inl (addrow h F)))))) H := hM
    have f15_2 : (va_up M bl (some (.inl (G.2.1 1, 5, .inr (.inl (addrow h F)))))) a = some (.inr (3, [.int li, .ref na, .ref ba])) := (up_ne (fun h9 => absurd (Eq.trans (Eq.trans (Eq.symm fa) (congrArg M h9)) fl) (by simp))).trans fa
    have f15_3 : (va_up M bl (some (.inl (G.2.1 1, 5, .inr (.inl (addrow h F)))))) na = some (.inl (G.2.1 5, 1002, .inr (.inr (.inr (.inr g))))) := (up_ne (fun h9 => absurd (Eq.trans (Eq.trans (Eq.symm fn) (congrArg M h9)) fl) (by simp))).trans fn
    have f15_4 : (va_up M bl (some (.inl (G.2.1 1, 5, .inr (.inl (addrow h F)))))) ba = some (.inr (0, [.ref bl])) := (up_ne (fun h9 => absurd (Eq.trans (Eq.trans (Eq.symm fo) (congrArg M h9)) fl) (by simp))).trans fo
    have f15_5 : (va_up M bl (some (.inl (G.2.1 1, 5, .inr (.inl (addrow h F)))))) bl = some (.inl (G.2.1 1, 5, .inr (.inl (addrow h F)))) := up_eq
    have f15_6 : (va_up M bl (some (.inl (G.2.1 1, 5, .inr (.inl (addrow h F)))))) x9 = some (.inr (0, [.ref (rw9 x9)])) := (up_ne (fun h9 => absurd (Eq.trans (Eq.trans (Eq.symm fx9) (congrArg M h9)) fl) (by simp))).trans fx9
    have f15_7 : (va_up M bl (some (.inl (G.2.1 1, 5, .inr (.inl (addrow h F)))))) (rw9 x9) = some (.inl (G.2.1 1, 5, .inr (.inl F))) := (up_ne hyb).trans fy9
    exact (r_v hx hb hr hlocks hS () trivial hM (Nat.le_of_ble_eq_true rfl) (Nat.le_of_ble_eq_true rfl) dX3_settle_18)
set_option maxHeartbeats 4000000 in
set_option maxRecDepth 100000 in
theorem c_X3_book (l : Launch) (G : Gx) (M : Mp) (a : Nat) (li : Int32) (na ba : Nat) (g : Nat → Option Nat) (k d : Int32) (x : Int64) (rw9 : Nat → Nat) (F : Nat → Int64) (fa : M a = some (.inr (3, [.int li, .ref na, .ref ba]))) (fn : M na = some (.inl (G.2.1 5, 1002, .inr (.inr (.inr (.inr g)))))) (hrow : ∀ x9, g d.toNatClampNeg = some x9 → M x9 = some (.inr (0, [.ref (rw9 x9)])) ∧ M (rw9 x9) = some (.inl (G.2.1 1, 5, .inr (.inl F)))) (hk : vp_in k 5) (hd : vp_in d 1002) : Met l yX3_book wsX3_book ({ frames := 2, cells := 2, slots := 6, locals := 44 }) (Cv G M [.ref a, .int k, .int d, .long x]) (va_Qv (S := Option (Nat × Nat)) (fun u => match u with | none => (g d.toNatClampNeg).isSome = true | some (q, qb) => g d.toNatClampNeg = none ∧ M q = none ∧ M qb = none) (Bm G (fun u => match u with | none => (match g d.toNatClampNeg with | some x9 => va_up M (rw9 x9) (some (.inl (G.2.1 1, 5, .inr (.inl (vp_updL F k.toNatClampNeg (F k.toNatClampNeg + x)))))) | none => M) | some (q, qb) => va_up (va_up (va_up M q (some (.inr (0, [.ref qb])))) qb (some (.inl (G.2.1 1, 5, .inr (.inl (vp_updL (fun _ => 0) k.toNatClampNeg (0 + x))))))) na (some (.inl (G.2.1 5, 1002, .inr (.inr (.inr (.inr (va_up g d.toNatClampNeg (some q)))))))))) (AG G)) (2) (6) (AG G) := by
  refine m_met [.ref a, .int k, .int d, .long x] [(0, .ref a), (1, .int k), (2, .int d), (3, .long x)] (by decide) rfl rfl (Nat.le_of_ble_eq_true rfl) ?_
  intro p e s m below meth c ls hx hb hr hml hown hts hlocks hin hC hM hl hS
  refine lv_iload_n hx hb dX3_book_0 rfl (lv_at hl 2 rfl) ?_
  refine lv_aload_n hx hb dX3_book_1 rfl (lv_at hl 0 rfl) ?_
  refine m_get (ci := 3) (v := .ref na) (C := RX3) (T := TX3) (N := 3) (a := a) hx hb hts (by decide +kernel) hown hC hM fa rfl 1 (by decide) (hts (.fieldLink RX3 18 "Forwardroll$Customer" "netAmounts" "[LForwardroll$Amounts;") (by decide +kernel)) (fun _ h9 => h9) rfl dX3_book_2 ?_
  refine m_alen (a := na) hx hb hC hM 5 rfl fn (v := 1002) rfl dX3_book_5 ?_
  refine k_i (va_runSN (As := [.int d, .int 1002]) (rest := []) ⟨hx, hb, hml, hown, hts⟩ (c_X5_isIndex l G M d 1002) ⟨va_cnB 2 hts gX3_book_X5_isIndex_n27 rfl rfl rfl (hC.w 18 rfl) (hts (.initialized RX5) (by decide +kernel)) (by decide +kernel) ⟨Nat.le_of_ble_eq_true rfl, Nat.le_of_ble_eq_true rfl⟩, hts (.static yX5_isIndex) (by decide +kernel), trivial⟩ (preS_of hC hS hM) rfl rfl hl.1 rfl (lv_room (Nat.le_of_ble_eq_true rfl)) dX3_book_6 ⟨Nat.le_of_ble_eq_true rfl, Nat.le_of_ble_eq_true rfl⟩) hS (fun r6 u6 H locs hp6 hM hS => ?_)
  have hM : Hm G M H := hM
  have hp6 : r6 = ixb d 1002 := hp6
  subst hp6
  refine lv_if_ne (tgt := 13) hx hb dX3_book_9 (by decide) (fun c_9 => ?_) (fun c_9 => ?_)
  · refine lv_aload_n hx hb dX3_book_13 rfl (lv_at hl 0 rfl) ?_
    refine m_get (ci := 3) (v := .ref na) (C := RX3) (T := TX3) (N := 3) (a := a) hx hb hts (by decide +kernel) hown hC hM fa rfl 1 (by decide) (hts (.fieldLink RX3 18 "Forwardroll$Customer" "netAmounts" "[LForwardroll$Amounts;") (by decide +kernel)) (fun _ h9 => h9) rfl dX3_book_14 ?_
    refine lv_iload_n hx hb dX3_book_17 rfl (lv_at hl 2 rfl) ?_
    refine m_aldq (a := na) hx hb hC hM 5 rfl fn hd dX3_book_18 ?_
    skip
    cases hq9 : g d.toNatClampNeg with
    | none =>
      skip
      refine lv_astoreN (lv' := [(5, .null), (0, .ref a), (1, .int k), (2, .int d), (3, .long x)]) hx hb dX3_book_19 hl (by decide) rfl (fun ls hl => ?_)
      refine lv_aloadN hx hb dX3_book_21 (lv_at hl 0 rfl) ?_
      refine lv_ifnonnullN hx hb dX3_book_23 ?_
      refine m_new (ci := 0) (fs := [.null]) (C := RX0) (T := TX0) (N := 1) hx hb hts (by decide +kernel) tyX0 tyX0_ok hown (hts (.classLink RX3 16 RX0) (by decide +kernel)) (hts (.instantiable RX0 1) (by decide +kernel)) (hts (.initialized RX0) (by decide +kernel)) hC hM hS hC.1 rfl (fun j hj => by rcases (show j = 0 by omega) with rfl <;> rfl) (Nat.le_of_ble_eq_true rfl) (Nat.le_of_ble_eq_true rfl) dX3_book_26 (fun q26 H hn26 hM hS => ?_)
      have hM : Hm G (va_up M q26 (some (.inr (0, [.null])))) H := hM
      have hne26_2 : a ≠ q26 := fun h9 => absurd (Eq.trans (Eq.trans (Eq.symm fa) (congrArg M h9)) hn26) (by simp)
      have f26_2 : (va_up M q26 (some (.inr (0, [.null])))) a = some (.inr (3, [.int li, .ref na, .ref ba])) := (up_ne hne26_2).trans fa
      have hne26_3 : na ≠ q26 := fun h9 => absurd (Eq.trans (Eq.trans (Eq.symm fn) (congrArg M h9)) hn26) (by simp)
      have f26_3 : (va_up M q26 (some (.inr (0, [.null])))) na = some (.inl (G.2.1 5, 1002, .inr (.inr (.inr (.inr g))))) := (up_ne hne26_3).trans fn
      have f26_q4 : (va_up M q26 (some (.inr (0, [.null])))) q26 = some (.inr (0, [.null])) := up_eq
      refine lv_dup hx hb dX3_book_29 rfl ?_
      refine k_v (va_runIN (As := []) (rest := [.ref q26]) ⟨hx, hb, hml, hown, hts⟩ (c_X0_init l G (va_up M q26 (some (.inr (0, [.null])))) q26 f26_q4) ⟨va_cnB 0 hts gX3_book_X0_init_n22 rfl rfl rfl (hC.w 15 rfl) (hts (.initialized RX0) (by decide +kernel)) (by decide +kernel) ⟨Nat.le_of_ble_eq_true rfl, Nat.le_of_ble_eq_true rfl⟩, rfl, hts (.instanceMethod yX0_init) (by decide +kernel)⟩ (preS_of hC hS hM) rfl rfl hl.1 rfl (lv_room (Nat.le_of_ble_eq_true rfl)) dX3_book_30 ⟨Nat.le_of_ble_eq_true rfl, Nat.le_of_ble_eq_true rfl⟩) hS (fun u30 H locs hp30 hM hS => ?_)
      have hne30_5 : a ≠ u30 := fun h9 => absurd (Eq.trans (Eq.trans (Eq.symm f26_2) (congrArg (va_up M q26 (some (.inr (0, [.null])))) h9)) hp30) (by simp)
      have f30_5 : (va_up (va_up M q26 (some (.inr (0, [.null])))) u30 (some (.inl (G.2.1 1, 5, .inr (.inl (fun _ => 0)))))) a = some (.inr (3, [.int li, .ref na, .ref ba])) := (up_ne hne30_5).trans f26_2
      have hne30_6 : na ≠ u30 := fun h9 => absurd (Eq.trans (Eq.trans (Eq.symm f26_3) (congrArg (va_up M q26 (some (.inr (0, [.null])))) h9)) hp30) (by simp)
      have f30_6 : (va_up (va_up M q26 (some (.inr (0, [.null])))) u30 (some (.inl (G.2.1 1, 5, .inr (.inl (fun _ => 0)))))) na = some (.inl (G.2.1 5, 1002, .inr (.inr (.inr (.inr g))))) := (up_ne hne30_6).trans f26_3
      have hne30_7 : q26 ≠ u30 := fun h9 => absurd (Eq.trans (Eq.trans (Eq.symm f26_q4) (congrArg (va_up M q26 (some (.inr (0, [.null])))) h9)) hp30) (by simp)
      have f30_7 : (va_up (va_up M q26 (some (.inr (0, [.null])))) u30 (some (.inl (G.2.1 1, 5, .inr (.inl (fun _ => 0)))))) q26 = some (.inr (0, [.null])) := (up_ne hne30_7).trans f26_q4
      have f30_q8 : (va_up (va_up M q26 (some (.inr (0, [.null])))) u30 (some (.inl (G.2.1 1, 5, .inr (.inl (fun _ => 0)))))) u30 = some (.inl (G.2.1 1, 5, .inr (.inl (fun _ => 0)))) := up_eq
      have hM : Hm G (va_up (va_up (va_up M q26 (some (.inr (0, [.null])))) u30 (some (.inl (G.2.1 1, 5, .inr (.inl (fun _ => 0)))))) q26 (some (.inr (0, [.ref u30])))) H := hM
      have g30_9 : (va_up (va_up (va_up M q26 (some (.inr (0, [.null])))) u30 (some (.inl (G.2.1 1, 5, .inr (.inl (fun _ => 0)))))) q26 (some (.inr (0, [.ref u30])))) a = some (.inr (3, [.int li, .ref na, .ref ba])) := (up_ne hne26_2).trans f30_5
      have g30_10 : (va_up (va_up (va_up M q26 (some (.inr (0, [.null])))) u30 (some (.inl (G.2.1 1, 5, .inr (.inl (fun _ => 0)))))) q26 (some (.inr (0, [.ref u30])))) na = some (.inl (G.2.1 5, 1002, .inr (.inr (.inr (.inr g))))) := (up_ne hne26_3).trans f30_6
      have g30_11 : (va_up (va_up (va_up M q26 (some (.inr (0, [.null])))) u30 (some (.inl (G.2.1 1, 5, .inr (.inl (fun _ => 0)))))) q26 (some (.inr (0, [.ref u30])))) q26 = some (.inr (0, [.ref u30])) := up_eq
      have g30_12 : (va_up (va_up (va_up M q26 (some (.inr (0, [.null])))) u30 (some (.inl (G.2.1 1, 5, .inr (.inl (fun _ => 0)))))) q26 (some (.inr (0, [.ref u30])))) u30 = some (.inl (G.2.1 1, 5, .inr (.inl (fun _ => 0)))) := (up_ne (fun h9 => absurd (Eq.trans (Eq.trans (Eq.symm f30_q8) (congrArg (va_up (va_up M q26 (some (.inr (0, [.null])))) u30 (some (.inl (G.2.1 1, 5, .inr (.inl (fun _ => 0)))))) h9)) f30_7) (by simp))).trans f30_q8
      refine lv_astore (lv' := [(5, .ref q26), (0, .ref a), (1, .int k), (2, .int d), (3, .long x)]) hx hb dX3_book_33 hl (by decide) rfl (fun ls hl => ?_)
      refine lv_aload_n hx hb dX3_book_35 rfl (lv_at hl 1 rfl) ?_
      refine m_get (ci := 3) (v := .ref na) (C := RX3) (T := TX3) (N := 3) (a := a) hx hb hts (by decide +kernel) hown hC hM g30_9 rfl 1 (by decide) (hts (.fieldLink RX3 18 "Forwardroll$Customer" "netAmounts" "[LForwardroll$Amounts;") (by decide +kernel)) (fun _ h9 => h9) rfl dX3_book_36 ?_
      refine lv_iload_n hx hb dX3_book_39 rfl (lv_at hl 3 rfl) ?_
      refine lv_aload hx hb dX3_book_40 (lv_at hl 0 rfl) ?_
      refine m_astq (a := na) (ci := 0) hx hb hC hM hS 5 rfl g30_10 g30_11 rfl hd dX3_book_42 (fun H locs hM hS => ?_)
      have hM : Hm G (va_up (va_up (va_up (va_up M q26 (some (.inr (0, [.null])))) u30 (some (.inl (G.2.1 1, 5, .inr (.inl (fun _ => 0)))))) q26 (some (.inr (0, [.ref u30])))) na (some (.inl (G.2.1 5, 1002, .inr (.inr (.inr (.inr (va_up g d.toNatClampNeg (some q26))))))))) H := hM
      have f42_14 : (va_up (va_up (va_up (va_up M q26 (some (.inr (0, [.null])))) u30 (some (.inl (G.2.1 1, 5, .inr (.inl (fun _ => 0)))))) q26 (some (.inr (0, [.ref u30])))) na (some (.inl (G.2.1 5, 1002, .inr (.inr (.inr (.inr (va_up g d.toNatClampNeg (some q26))))))))) a = some (.inr (3, [.int li, .ref na, .ref ba])) := (up_ne (fun h9 => absurd (Eq.trans (Eq.trans (Eq.symm g30_9) (congrArg (va_up (va_up (va_up M q26 (some (.inr (0, [.null])))) u30 (some (.inl (G.2.1 1, 5, .inr (.inl (fun _ => 0)))))) q26 (some (.inr (0, [.ref u30])))) h9)) g30_10) (by simp))).trans g30_9
      have f42_15 : (va_up (va_up (va_up (va_up M q26 (some (.inr (0, [.null])))) u30 (some (.inl (G.2.1 1, 5, .inr (.inl (fun _ => 0)))))) q26 (some (.inr (0, [.ref u30])))) na (some (.inl (G.2.1 5, 1002, .inr (.inr (.inr (.inr (va_up g d.toNatClampNeg (some q26))))))))) na = some (.inl (G.2.1 5, 1002, .inr (.inr (.inr (.inr (va_up g d.toNatClampNeg (some q26))))))) := up_eq
      have f42_16 : (va_up (va_up (va_up (va_up M q26 (some (.inr (0, [.null])))) u30 (some (.inl (G.2.1 1, 5, .inr (.inl (fun _ => 0)))))) q26 (some (.inr (0, [.ref u30])))) na (some (.inl (G.2.1 5, 1002, .inr (.inr (.inr (.inr (va_up g d.toNatClampNeg (some q26))))))))) q26 = some (.inr (0, [.ref u30])) := (up_ne (fun h9 => absurd (Eq.trans (Eq.trans (Eq.symm g30_11) (congrArg (va_up (va_up (va_up M q26 (some (.inr (0, [.null])))) u30 (some (.inl (G.2.1 1, 5, .inr (.inl (fun _ => 0)))))) q26 (some (.inr (0, [.ref u30])))) h9)) g30_10) (by simp))).trans g30_11
      have f42_17 : (va_up (va_up (va_up (va_up M q26 (some (.inr (0, [.null])))) u30 (some (.inl (G.2.1 1, 5, .inr (.inl (fun _ => 0)))))) q26 (some (.inr (0, [.ref u30])))) na (some (.inl (G.2.1 5, 1002, .inr (.inr (.inr (.inr (va_up g d.toNatClampNeg (some q26))))))))) u30 = some (.inl (G.2.1 1, 5, .inr (.inl (fun _ => 0)))) := (up_ne (fun h9 => absurd (Eq.trans (Eq.trans (Eq.symm g30_12) (congrArg (va_up (va_up (va_up M q26 (some (.inr (0, [.null])))) u30 (some (.inl (G.2.1 1, 5, .inr (.inl (fun _ => 0)))))) q26 (some (.inr (0, [.ref u30])))) h9)) g30_10) (by simp))).trans g30_12
      refine lv_aload hx hb dX3_book_43 (lv_at hl 0 rfl) ?_
      refine lv_iload_n hx hb dX3_book_45 rfl (lv_at hl 2 rfl) ?_
      refine lv_lload_n hx hb dX3_book_46 rfl (lv_at hl 4 rfl) ?_
      refine k_v (va_runV (As := [.int k, .long x]) (rest := []) ⟨hx, hb, hml, hown, hts⟩ (c_X0_add l G (va_up (va_up (va_up (va_up M q26 (some (.inr (0, [.null])))) u30 (some (.inl (G.2.1 1, 5, .inr (.inl (fun _ => 0)))))) q26 (some (.inr (0, [.ref u30])))) na (some (.inl (G.2.1 5, 1002, .inr (.inr (.inr (.inr (va_up g d.toNatClampNeg (some q26))))))))) q26 u30 (fun _ => 0) k x f42_16 f42_17 hk) (cwV 2 hts gX3_book_X0_add rfl rfl rfl (by decide +kernel) ⟨Nat.le_of_ble_eq_true rfl, Nat.le_of_ble_eq_true rfl⟩) (preV_of hC hS hM f42_16 rfl) rfl rfl hl.1 rfl (lv_room (Nat.le_of_ble_eq_true rfl)) dX3_book_47 ⟨Nat.le_of_ble_eq_true rfl, Nat.le_of_ble_eq_true rfl⟩) hS (fun u47 H locs hp47 hM hS => ?_)
      have hM : Hm G (va_up (va_up (va_up (va_up (va_up M q26 (some (.inr (0, [.null])))) u30 (some (.inl (G.2.1 1, 5, .inr (.inl (fun _ => 0)))))) q26 (some (.inr (0, [.ref u30])))) na (some (.inl (G.2.1 5, 1002, .inr (.inr (.inr (.inr (va_up g d.toNatClampNeg (some q26))))))))) u30 (some (.inl (G.2.1 1, 5, .inr (.inl (vp_updL (fun _ => 0) k.toNatClampNeg ((fun _ => 0) k.toNatClampNeg + x))))))) H := hM
      have f47_19 : (va_up (va_up (va_up (va_up (va_up M q26 (some (.inr (0, [.null])))) u30 (some (.inl (G.2.1 1, 5, .inr (.inl (fun _ => 0)))))) q26 (some (.inr (0, [.ref u30])))) na (some (.inl (G.2.1 5, 1002, .inr (.inr (.inr (.inr (va_up g d.toNatClampNeg (some q26))))))))) u30 (some (.inl (G.2.1 1, 5, .inr (.inl (vp_updL (fun _ => 0) k.toNatClampNeg ((fun _ => 0) k.toNatClampNeg + x))))))) a = some (.inr (3, [.int li, .ref na, .ref ba])) := (up_ne hne30_5).trans f42_14
      have f47_20 : (va_up (va_up (va_up (va_up (va_up M q26 (some (.inr (0, [.null])))) u30 (some (.inl (G.2.1 1, 5, .inr (.inl (fun _ => 0)))))) q26 (some (.inr (0, [.ref u30])))) na (some (.inl (G.2.1 5, 1002, .inr (.inr (.inr (.inr (va_up g d.toNatClampNeg (some q26))))))))) u30 (some (.inl (G.2.1 1, 5, .inr (.inl (vp_updL (fun _ => 0) k.toNatClampNeg ((fun _ => 0) k.toNatClampNeg + x))))))) na = some (.inl (G.2.1 5, 1002, .inr (.inr (.inr (.inr (va_up g d.toNatClampNeg (some q26))))))) := (up_ne hne30_6).trans f42_15
      have f47_21 : (va_up (va_up (va_up (va_up (va_up M q26 (some (.inr (0, [.null])))) u30 (some (.inl (G.2.1 1, 5, .inr (.inl (fun _ => 0)))))) q26 (some (.inr (0, [.ref u30])))) na (some (.inl (G.2.1 5, 1002, .inr (.inr (.inr (.inr (va_up g d.toNatClampNeg (some q26))))))))) u30 (some (.inl (G.2.1 1, 5, .inr (.inl (vp_updL (fun _ => 0) k.toNatClampNeg ((fun _ => 0) k.toNatClampNeg + x))))))) q26 = some (.inr (0, [.ref u30])) := (up_ne hne30_7).trans f42_16
      have f47_22 : (va_up (va_up (va_up (va_up (va_up M q26 (some (.inr (0, [.null])))) u30 (some (.inl (G.2.1 1, 5, .inr (.inl (fun _ => 0)))))) q26 (some (.inr (0, [.ref u30])))) na (some (.inl (G.2.1 5, 1002, .inr (.inr (.inr (.inr (va_up g d.toNatClampNeg (some q26))))))))) u30 (some (.inl (G.2.1 1, 5, .inr (.inl (vp_updL (fun _ => 0) k.toNatClampNeg ((fun _ => 0) k.toNatClampNeg + x))))))) u30 = some (.inl (G.2.1 1, 5, .inr (.inl (vp_updL (fun _ => 0) k.toNatClampNeg ((fun _ => 0) k.toNatClampNeg + x))))) := up_eq
      have nq1 : q26 ≠ u30 := fun h9 => by have h8 := hp30; rw [← h9] at h8; simp [va_up] at h8
      have nq2 : na ≠ q26 := fun h9 => by have h8 := fn; rw [h9, hn26] at h8; cases h8
      have nq3 : na ≠ u30 := fun h9 => by have h8 := hp30; rw [← h9, up_ne nq2, fn] at h8; cases h8
      have e9 : (va_up (va_up (va_up (va_up (va_up M q26 (some (.inr (0, [.null])))) u30 (some (.inl (G.2.1 1, 5, .inr (.inl (fun _ => 0)))))) q26 (some (.inr (0, [.ref u30])))) na (some (.inl (G.2.1 5, 1002, .inr (.inr (.inr (.inr (va_up g d.toNatClampNeg (some q26))))))))) u30 (some (.inl (G.2.1 1, 5, .inr (.inl (vp_updL (fun _ => 0) k.toNatClampNeg ((fun _ => 0) k.toNatClampNeg + x))))))) = va_up (va_up (va_up M q26 (some (.inr (0, [.ref u30])))) u30 (some (.inl (G.2.1 1, 5, .inr (.inl (vp_updL (fun _ => 0) k.toNatClampNeg (0 + x))))))) na (some (.inl (G.2.1 5, 1002, .inr (.inr (.inr (.inr (va_up g d.toNatClampNeg (some q26)))))))) := by
        funext b9
        by_cases h1 : b9 = u30
        · subst h1; simp [va_up, Ne.symm nq1, Ne.symm nq3]
        · by_cases h2 : b9 = na
          · subst h2; simp [va_up, h1]
          · by_cases h3 : b9 = q26
            · subst h3; simp [va_up, h1, h2]
            · simp [va_up, h1, h2, h3]
      rw [e9] at hM
      exact (r_v hx hb hr hlocks hS (some (q26, u30)) ⟨rfl, hn26, (up_ne (Ne.symm nq1)).symm.trans hp30⟩ hM (Nat.le_of_ble_eq_true rfl) (Nat.le_of_ble_eq_true rfl) dX3_book_50)
    | some x9 =>
      obtain ⟨fx9, fy9⟩ := hrow x9 hq9
      refine lv_astore (lv' := [(5, .ref x9), (0, .ref a), (1, .int k), (2, .int d), (3, .long x)]) hx hb dX3_book_19 hl (by decide) rfl (fun ls hl => ?_)
      refine lv_aload hx hb dX3_book_21 (lv_at hl 0 rfl) ?_
      refine lv_ifnonnull (tgt := 43) hx hb dX3_book_23 (by decide) ?_
      refine lv_aload hx hb dX3_book_43 (lv_at hl 0 rfl) ?_
      refine lv_iload_n hx hb dX3_book_45 rfl (lv_at hl 2 rfl) ?_
      refine lv_lload_n hx hb dX3_book_46 rfl (lv_at hl 4 rfl) ?_
      refine k_v (va_runV (As := [.int k, .long x]) (rest := []) ⟨hx, hb, hml, hown, hts⟩ (c_X0_add l G M x9 (rw9 x9) F k x fx9 fy9 hk) (cwV 2 hts gX3_book_X0_add rfl rfl rfl (by decide +kernel) ⟨Nat.le_of_ble_eq_true rfl, Nat.le_of_ble_eq_true rfl⟩) (preV_of hC hS hM fx9 rfl) rfl rfl hl.1 rfl (lv_room (Nat.le_of_ble_eq_true rfl)) dX3_book_47 ⟨Nat.le_of_ble_eq_true rfl, Nat.le_of_ble_eq_true rfl⟩) hS (fun u47 H locs hp47 hM hS => ?_)
      have hM : Hm G (va_up M (rw9 x9) (some (.inl (G.2.1 1, 5, .inr (.inl (vp_updL F k.toNatClampNeg (F k.toNatClampNeg + x))))))) H := hM
      have f47_24 : (va_up M (rw9 x9) (some (.inl (G.2.1 1, 5, .inr (.inl (vp_updL F k.toNatClampNeg (F k.toNatClampNeg + x))))))) a = some (.inr (3, [.int li, .ref na, .ref ba])) := (up_ne (fun h9 => absurd (Eq.trans (Eq.trans (Eq.symm fa) (congrArg M h9)) fy9) (by simp))).trans fa
      have f47_25 : (va_up M (rw9 x9) (some (.inl (G.2.1 1, 5, .inr (.inl (vp_updL F k.toNatClampNeg (F k.toNatClampNeg + x))))))) na = some (.inl (G.2.1 5, 1002, .inr (.inr (.inr (.inr g))))) := (up_ne (fun h9 => absurd (Eq.trans (Eq.trans (Eq.symm fn) (congrArg M h9)) fy9) (by simp))).trans fn
      have f47_26 : (va_up M (rw9 x9) (some (.inl (G.2.1 1, 5, .inr (.inl (vp_updL F k.toNatClampNeg (F k.toNatClampNeg + x))))))) x9 = some (.inr (0, [.ref (rw9 x9)])) := (up_ne (fun h9 => absurd (Eq.trans (Eq.trans (Eq.symm fx9) (congrArg M h9)) fy9) (by simp))).trans fx9
      have f47_27 : (va_up M (rw9 x9) (some (.inl (G.2.1 1, 5, .inr (.inl (vp_updL F k.toNatClampNeg (F k.toNatClampNeg + x))))))) (rw9 x9) = some (.inl (G.2.1 1, 5, .inr (.inl (vp_updL F k.toNatClampNeg (F k.toNatClampNeg + x))))) := up_eq
      exact (r_v hx hb hr hlocks hS none rfl hM (Nat.le_of_ble_eq_true rfl) (Nat.le_of_ble_eq_true rfl) dX3_book_50)
  · exact absurd (of_vin 1002 hd (by decide)) (ixb_f c_9)
set_option maxHeartbeats 4000000 in
set_option maxRecDepth 100000 in
theorem c_X3_init (l : Launch) (G : Gx) (M : Mp) (a : Nat) (fa : M a = some (.inr (3, [.int 0, .null, .null]))) : Met l yX3_init wsX3_init ({ frames := 2, cells := 3, slots := 1008, locals := 40 }) (Cv G M [.ref a]) (va_Qv (S := Nat × Nat × Nat) (fun u => M u.1 = none ∧ M u.2.1 = none ∧ M u.2.2 = none ∧ u.1 ≠ u.2.1 ∧ u.1 ≠ u.2.2 ∧ u.2.1 ≠ u.2.2) (Bm G (fun u => va_up (va_up (va_up (va_up M a (some (.inr (3, [.int 1000000, .ref u.1, .ref u.2.1])))) u.1 (some (.inl (G.2.1 5, 1002, .inr (.inr (.inr (.inr (fun _ => none)))))))) u.2.1 (some (.inr (0, [.ref u.2.2])))) u.2.2 (some (.inl (G.2.1 1, 5, .inr (.inl (fun _ => 0))))))) (AG G)) (3) (1008) (AG G) := by
  refine m_met [.ref a] [(0, .ref a)] (by decide) rfl rfl (Nat.le_of_ble_eq_true rfl) ?_
  intro p e s m below meth c ls hx hb hr hml hown hts hlocks hin hC hM hl hS
  refine lv_aload_n hx hb dX3_init_0 rfl (lv_at hl 0 rfl) ?_
  refine W.objInit hx hb hown (hts (.methodLink RX3 3 objectInit) (by decide +kernel)) (hts (.instanceMethod objectInit) (by decide +kernel)) (hts (.code objectInit ⟨#[0xb1]⟩ 1 none) (by decide +kernel)) rfl (by rw [hml]; exact hl.1) rfl dX3_init_1 (Nat.le_of_ble_eq_true rfl) (Nat.le_of_ble_eq_true rfl) ?_
  refine W.eq (g2 := F0 m 4 ls []) rfl ?_
  refine lv_aload_n hx hb dX3_init_4 rfl (lv_at hl 0 rfl) ?_
  refine lv_ldc (own := RX3) (v := 1000000) hx hb hown (hts (.constant RX3 9 1000000) (by decide +kernel)) dX3_init_5 ?_
  refine m_put (host := "") (ci := 3) (v := .int 1000000) (ty := .int) (C := RX3) (T := TX3) (N := 3) (a := a) hx hb hts (by decide +kernel) tyX3 tyX3_ok nmX3 hown hC hM hS fa rfl 0 (by decide) (hts (.fieldLink RX3 10 "Forwardroll$Customer" "limit" "I") (by decide +kernel)) (fun _ h9 => h9) rfl (by decide +kernel) rfl rfl (Nat.le_of_ble_eq_true rfl) dX3_init_7 (fun H locs hM hS => ?_)
  have hM : Hm G (va_up M a (some (.inr (3, [.int 1000000, .null, .null])))) H := hM
  have f7_2 : (va_up M a (some (.inr (3, [.int 1000000, .null, .null])))) a = some (.inr (3, [.int 1000000, .null, .null])) := up_eq
  refine lv_aload_n hx hb dX3_init_10 rfl (lv_at hl 0 rfl) ?_
  refine lv_sipush (v := 1002) hx hb dX3_init_11 (by decide) ?_
  refine m_newq (C := RX0) hx hb hown (hts (.classLink RX3 16 RX0) (by decide +kernel)) (hC.ao 0 rfl) 5 hC rfl hM hS hC.1 (N' := 1002) (by decide) (by decide) (Nat.le_of_ble_eq_true rfl) (Nat.le_of_ble_eq_true rfl) (Nat.le_of_ble_eq_true rfl) dX3_init_14 (fun q14 H hn14 hM hS => ?_)
  have hM : Hm G (va_up (va_up M a (some (.inr (3, [.int 1000000, .null, .null])))) q14 (some (.inl (G.2.1 5, 1002, .inr (.inr (.inr (.inr (fun _ => none)))))))) H := hM
  have hne14_3 : a ≠ q14 := fun h9 => absurd (Eq.trans (Eq.trans (Eq.symm f7_2) (congrArg (va_up M a (some (.inr (3, [.int 1000000, .null, .null])))) h9)) hn14) (by simp)
  have f14_3 : (va_up (va_up M a (some (.inr (3, [.int 1000000, .null, .null])))) q14 (some (.inl (G.2.1 5, 1002, .inr (.inr (.inr (.inr (fun _ => none)))))))) a = some (.inr (3, [.int 1000000, .null, .null])) := (up_ne hne14_3).trans f7_2
  have f14_q4 : (va_up (va_up M a (some (.inr (3, [.int 1000000, .null, .null])))) q14 (some (.inl (G.2.1 5, 1002, .inr (.inr (.inr (.inr (fun _ => none)))))))) q14 = some (.inl (G.2.1 5, 1002, .inr (.inr (.inr (.inr (fun _ => none)))))) := up_eq
  refine m_putF (host := "") (ci := 3) (v := .ref q14) (ty := .array (.object "Forwardroll$Amounts")) (C := RX3) (T := TX3) (N := 3) (a := a) hx hb hts (by decide +kernel) tyX3 tyX3_ok nmX3 hown hC hM hS f14_3 rfl 1 (by decide) (hts (.fieldLink RX3 18 "Forwardroll$Customer" "netAmounts" "[LForwardroll$Amounts;") (by decide +kernel)) (fun _ h9 => h9) rfl hin rfl (by decide +kernel) rfl rfl (Nat.le_of_ble_eq_true rfl) dX3_init_17 (fun H locs hM hS => ?_)
  have hM : Hm G (va_up (va_up (va_up M a (some (.inr (3, [.int 1000000, .null, .null])))) q14 (some (.inl (G.2.1 5, 1002, .inr (.inr (.inr (.inr (fun _ => none)))))))) a (some (.inr (3, [.int 1000000, .ref q14, .null])))) H := hM
  have f17_6 : (va_up (va_up (va_up M a (some (.inr (3, [.int 1000000, .null, .null])))) q14 (some (.inl (G.2.1 5, 1002, .inr (.inr (.inr (.inr (fun _ => none)))))))) a (some (.inr (3, [.int 1000000, .ref q14, .null])))) a = some (.inr (3, [.int 1000000, .ref q14, .null])) := up_eq
  have f17_7 : (va_up (va_up (va_up M a (some (.inr (3, [.int 1000000, .null, .null])))) q14 (some (.inl (G.2.1 5, 1002, .inr (.inr (.inr (.inr (fun _ => none)))))))) a (some (.inr (3, [.int 1000000, .ref q14, .null])))) q14 = some (.inl (G.2.1 5, 1002, .inr (.inr (.inr (.inr (fun _ => none)))))) := (up_ne (fun h9 => absurd (Eq.trans (Eq.trans (Eq.symm f14_q4) (congrArg (va_up (va_up M a (some (.inr (3, [.int 1000000, .null, .null])))) q14 (some (.inl (G.2.1 5, 1002, .inr (.inr (.inr (.inr (fun _ => none)))))))) h9)) f14_3) (by simp))).trans f14_q4
  refine lv_aload_n hx hb dX3_init_20 rfl (lv_at hl 0 rfl) ?_
  refine m_new (ci := 0) (fs := [.null]) (C := RX0) (T := TX0) (N := 1) hx hb hts (by decide +kernel) tyX0 tyX0_ok hown (hts (.classLink RX3 16 RX0) (by decide +kernel)) (hts (.instantiable RX0 1) (by decide +kernel)) (hts (.initialized RX0) (by decide +kernel)) hC hM hS hC.1 rfl (fun j hj => by rcases (show j = 0 by omega) with rfl <;> rfl) (Nat.le_of_ble_eq_true rfl) (Nat.le_of_ble_eq_true rfl) dX3_init_21 (fun q21 H hn21 hM hS => ?_)
  have hM : Hm G (va_up (va_up (va_up (va_up M a (some (.inr (3, [.int 1000000, .null, .null])))) q14 (some (.inl (G.2.1 5, 1002, .inr (.inr (.inr (.inr (fun _ => none)))))))) a (some (.inr (3, [.int 1000000, .ref q14, .null])))) q21 (some (.inr (0, [.null])))) H := hM
  have hne21_8 : a ≠ q21 := fun h9 => absurd (Eq.trans (Eq.trans (Eq.symm f17_6) (congrArg (va_up (va_up (va_up M a (some (.inr (3, [.int 1000000, .null, .null])))) q14 (some (.inl (G.2.1 5, 1002, .inr (.inr (.inr (.inr (fun _ => none)))))))) a (some (.inr (3, [.int 1000000, .ref q14, .null])))) h9)) hn21) (by simp)
  have f21_8 : (va_up (va_up (va_up (va_up M a (some (.inr (3, [.int 1000000, .null, .null])))) q14 (some (.inl (G.2.1 5, 1002, .inr (.inr (.inr (.inr (fun _ => none)))))))) a (some (.inr (3, [.int 1000000, .ref q14, .null])))) q21 (some (.inr (0, [.null])))) a = some (.inr (3, [.int 1000000, .ref q14, .null])) := (up_ne hne21_8).trans f17_6
  have hne21_9 : q14 ≠ q21 := fun h9 => absurd (Eq.trans (Eq.trans (Eq.symm f17_7) (congrArg (va_up (va_up (va_up M a (some (.inr (3, [.int 1000000, .null, .null])))) q14 (some (.inl (G.2.1 5, 1002, .inr (.inr (.inr (.inr (fun _ => none)))))))) a (some (.inr (3, [.int 1000000, .ref q14, .null])))) h9)) hn21) (by simp)
  have f21_9 : (va_up (va_up (va_up (va_up M a (some (.inr (3, [.int 1000000, .null, .null])))) q14 (some (.inl (G.2.1 5, 1002, .inr (.inr (.inr (.inr (fun _ => none)))))))) a (some (.inr (3, [.int 1000000, .ref q14, .null])))) q21 (some (.inr (0, [.null])))) q14 = some (.inl (G.2.1 5, 1002, .inr (.inr (.inr (.inr (fun _ => none)))))) := (up_ne hne21_9).trans f17_7
  have f21_q10 : (va_up (va_up (va_up (va_up M a (some (.inr (3, [.int 1000000, .null, .null])))) q14 (some (.inl (G.2.1 5, 1002, .inr (.inr (.inr (.inr (fun _ => none)))))))) a (some (.inr (3, [.int 1000000, .ref q14, .null])))) q21 (some (.inr (0, [.null])))) q21 = some (.inr (0, [.null])) := up_eq
  refine lv_dup hx hb dX3_init_24 rfl ?_
  refine k_v (va_runIN (As := []) (rest := [.ref q21, .ref a]) ⟨hx, hb, hml, hown, hts⟩ (c_X0_init l G (va_up (va_up (va_up (va_up M a (some (.inr (3, [.int 1000000, .null, .null])))) q14 (some (.inl (G.2.1 5, 1002, .inr (.inr (.inr (.inr (fun _ => none)))))))) a (some (.inr (3, [.int 1000000, .ref q14, .null])))) q21 (some (.inr (0, [.null])))) q21 f21_q10) ⟨va_cnB 0 hts gX3_init_X0_init_n22 rfl rfl rfl (hC.w 15 rfl) (hts (.initialized RX0) (by decide +kernel)) (by decide +kernel) ⟨Nat.le_of_ble_eq_true rfl, Nat.le_of_ble_eq_true rfl⟩, rfl, hts (.instanceMethod yX0_init) (by decide +kernel)⟩ (preS_of hC hS hM) rfl rfl hl.1 rfl (lv_room (Nat.le_of_ble_eq_true rfl)) dX3_init_25 ⟨Nat.le_of_ble_eq_true rfl, Nat.le_of_ble_eq_true rfl⟩) hS (fun u25 H locs hp25 hM hS => ?_)
  have hne25_11 : a ≠ u25 := fun h9 => absurd (Eq.trans (Eq.trans (Eq.symm f21_8) (congrArg (va_up (va_up (va_up (va_up M a (some (.inr (3, [.int 1000000, .null, .null])))) q14 (some (.inl (G.2.1 5, 1002, .inr (.inr (.inr (.inr (fun _ => none)))))))) a (some (.inr (3, [.int 1000000, .ref q14, .null])))) q21 (some (.inr (0, [.null])))) h9)) hp25) (by simp)
  have f25_11 : (va_up (va_up (va_up (va_up (va_up M a (some (.inr (3, [.int 1000000, .null, .null])))) q14 (some (.inl (G.2.1 5, 1002, .inr (.inr (.inr (.inr (fun _ => none)))))))) a (some (.inr (3, [.int 1000000, .ref q14, .null])))) q21 (some (.inr (0, [.null])))) u25 (some (.inl (G.2.1 1, 5, .inr (.inl (fun _ => 0)))))) a = some (.inr (3, [.int 1000000, .ref q14, .null])) := (up_ne hne25_11).trans f21_8
  have hne25_12 : q14 ≠ u25 := fun h9 => absurd (Eq.trans (Eq.trans (Eq.symm f21_9) (congrArg (va_up (va_up (va_up (va_up M a (some (.inr (3, [.int 1000000, .null, .null])))) q14 (some (.inl (G.2.1 5, 1002, .inr (.inr (.inr (.inr (fun _ => none)))))))) a (some (.inr (3, [.int 1000000, .ref q14, .null])))) q21 (some (.inr (0, [.null])))) h9)) hp25) (by simp)
  have f25_12 : (va_up (va_up (va_up (va_up (va_up M a (some (.inr (3, [.int 1000000, .null, .null])))) q14 (some (.inl (G.2.1 5, 1002, .inr (.inr (.inr (.inr (fun _ => none)))))))) a (some (.inr (3, [.int 1000000, .ref q14, .null])))) q21 (some (.inr (0, [.null])))) u25 (some (.inl (G.2.1 1, 5, .inr (.inl (fun _ => 0)))))) q14 = some (.inl (G.2.1 5, 1002, .inr (.inr (.inr (.inr (fun _ => none)))))) := (up_ne hne25_12).trans f21_9
  have hne25_13 : q21 ≠ u25 := fun h9 => absurd (Eq.trans (Eq.trans (Eq.symm f21_q10) (congrArg (va_up (va_up (va_up (va_up M a (some (.inr (3, [.int 1000000, .null, .null])))) q14 (some (.inl (G.2.1 5, 1002, .inr (.inr (.inr (.inr (fun _ => none)))))))) a (some (.inr (3, [.int 1000000, .ref q14, .null])))) q21 (some (.inr (0, [.null])))) h9)) hp25) (by simp)
  have f25_13 : (va_up (va_up (va_up (va_up (va_up M a (some (.inr (3, [.int 1000000, .null, .null])))) q14 (some (.inl (G.2.1 5, 1002, .inr (.inr (.inr (.inr (fun _ => none)))))))) a (some (.inr (3, [.int 1000000, .ref q14, .null])))) q21 (some (.inr (0, [.null])))) u25 (some (.inl (G.2.1 1, 5, .inr (.inl (fun _ => 0)))))) q21 = some (.inr (0, [.null])) := (up_ne hne25_13).trans f21_q10
  have f25_q14 : (va_up (va_up (va_up (va_up (va_up M a (some (.inr (3, [.int 1000000, .null, .null])))) q14 (some (.inl (G.2.1 5, 1002, .inr (.inr (.inr (.inr (fun _ => none)))))))) a (some (.inr (3, [.int 1000000, .ref q14, .null])))) q21 (some (.inr (0, [.null])))) u25 (some (.inl (G.2.1 1, 5, .inr (.inl (fun _ => 0)))))) u25 = some (.inl (G.2.1 1, 5, .inr (.inl (fun _ => 0)))) := up_eq
  have hM : Hm G (va_up (va_up (va_up (va_up (va_up (va_up M a (some (.inr (3, [.int 1000000, .null, .null])))) q14 (some (.inl (G.2.1 5, 1002, .inr (.inr (.inr (.inr (fun _ => none)))))))) a (some (.inr (3, [.int 1000000, .ref q14, .null])))) q21 (some (.inr (0, [.null])))) u25 (some (.inl (G.2.1 1, 5, .inr (.inl (fun _ => 0)))))) q21 (some (.inr (0, [.ref u25])))) H := hM
  have g25_15 : (va_up (va_up (va_up (va_up (va_up (va_up M a (some (.inr (3, [.int 1000000, .null, .null])))) q14 (some (.inl (G.2.1 5, 1002, .inr (.inr (.inr (.inr (fun _ => none)))))))) a (some (.inr (3, [.int 1000000, .ref q14, .null])))) q21 (some (.inr (0, [.null])))) u25 (some (.inl (G.2.1 1, 5, .inr (.inl (fun _ => 0)))))) q21 (some (.inr (0, [.ref u25])))) a = some (.inr (3, [.int 1000000, .ref q14, .null])) := (up_ne hne21_8).trans f25_11
  have g25_16 : (va_up (va_up (va_up (va_up (va_up (va_up M a (some (.inr (3, [.int 1000000, .null, .null])))) q14 (some (.inl (G.2.1 5, 1002, .inr (.inr (.inr (.inr (fun _ => none)))))))) a (some (.inr (3, [.int 1000000, .ref q14, .null])))) q21 (some (.inr (0, [.null])))) u25 (some (.inl (G.2.1 1, 5, .inr (.inl (fun _ => 0)))))) q21 (some (.inr (0, [.ref u25])))) q14 = some (.inl (G.2.1 5, 1002, .inr (.inr (.inr (.inr (fun _ => none)))))) := (up_ne hne21_9).trans f25_12
  have g25_17 : (va_up (va_up (va_up (va_up (va_up (va_up M a (some (.inr (3, [.int 1000000, .null, .null])))) q14 (some (.inl (G.2.1 5, 1002, .inr (.inr (.inr (.inr (fun _ => none)))))))) a (some (.inr (3, [.int 1000000, .ref q14, .null])))) q21 (some (.inr (0, [.null])))) u25 (some (.inl (G.2.1 1, 5, .inr (.inl (fun _ => 0)))))) q21 (some (.inr (0, [.ref u25])))) q21 = some (.inr (0, [.ref u25])) := up_eq
  have g25_18 : (va_up (va_up (va_up (va_up (va_up (va_up M a (some (.inr (3, [.int 1000000, .null, .null])))) q14 (some (.inl (G.2.1 5, 1002, .inr (.inr (.inr (.inr (fun _ => none)))))))) a (some (.inr (3, [.int 1000000, .ref q14, .null])))) q21 (some (.inr (0, [.null])))) u25 (some (.inl (G.2.1 1, 5, .inr (.inl (fun _ => 0)))))) q21 (some (.inr (0, [.ref u25])))) u25 = some (.inl (G.2.1 1, 5, .inr (.inl (fun _ => 0)))) := (up_ne (fun h9 => absurd (Eq.trans (Eq.trans (Eq.symm f25_q14) (congrArg (va_up (va_up (va_up (va_up (va_up M a (some (.inr (3, [.int 1000000, .null, .null])))) q14 (some (.inl (G.2.1 5, 1002, .inr (.inr (.inr (.inr (fun _ => none)))))))) a (some (.inr (3, [.int 1000000, .ref q14, .null])))) q21 (some (.inr (0, [.null])))) u25 (some (.inl (G.2.1 1, 5, .inr (.inl (fun _ => 0)))))) h9)) f25_13) (by simp))).trans f25_q14
  refine m_putF (host := "") (ci := 3) (v := .ref q21) (ty := .object "Forwardroll$Amounts") (C := RX3) (T := TX3) (N := 3) (a := a) hx hb hts (by decide +kernel) tyX3 tyX3_ok nmX3 hown hC hM hS g25_15 rfl 2 (by decide) (hts (.fieldLink RX3 23 "Forwardroll$Customer" "balances" "LForwardroll$Amounts;") (by decide +kernel)) (fun _ h9 => h9) rfl hin rfl (by decide +kernel) rfl rfl (Nat.le_of_ble_eq_true rfl) dX3_init_28 (fun H locs hM hS => ?_)
  have hM : Hm G (va_up (va_up (va_up (va_up (va_up (va_up (va_up M a (some (.inr (3, [.int 1000000, .null, .null])))) q14 (some (.inl (G.2.1 5, 1002, .inr (.inr (.inr (.inr (fun _ => none)))))))) a (some (.inr (3, [.int 1000000, .ref q14, .null])))) q21 (some (.inr (0, [.null])))) u25 (some (.inl (G.2.1 1, 5, .inr (.inl (fun _ => 0)))))) q21 (some (.inr (0, [.ref u25])))) a (some (.inr (3, [.int 1000000, .ref q14, .ref q21])))) H := hM
  have f28_20 : (va_up (va_up (va_up (va_up (va_up (va_up (va_up M a (some (.inr (3, [.int 1000000, .null, .null])))) q14 (some (.inl (G.2.1 5, 1002, .inr (.inr (.inr (.inr (fun _ => none)))))))) a (some (.inr (3, [.int 1000000, .ref q14, .null])))) q21 (some (.inr (0, [.null])))) u25 (some (.inl (G.2.1 1, 5, .inr (.inl (fun _ => 0)))))) q21 (some (.inr (0, [.ref u25])))) a (some (.inr (3, [.int 1000000, .ref q14, .ref q21])))) a = some (.inr (3, [.int 1000000, .ref q14, .ref q21])) := up_eq
  have f28_21 : (va_up (va_up (va_up (va_up (va_up (va_up (va_up M a (some (.inr (3, [.int 1000000, .null, .null])))) q14 (some (.inl (G.2.1 5, 1002, .inr (.inr (.inr (.inr (fun _ => none)))))))) a (some (.inr (3, [.int 1000000, .ref q14, .null])))) q21 (some (.inr (0, [.null])))) u25 (some (.inl (G.2.1 1, 5, .inr (.inl (fun _ => 0)))))) q21 (some (.inr (0, [.ref u25])))) a (some (.inr (3, [.int 1000000, .ref q14, .ref q21])))) q14 = some (.inl (G.2.1 5, 1002, .inr (.inr (.inr (.inr (fun _ => none)))))) := (up_ne (fun h9 => absurd (Eq.trans (Eq.trans (Eq.symm g25_16) (congrArg (va_up (va_up (va_up (va_up (va_up (va_up M a (some (.inr (3, [.int 1000000, .null, .null])))) q14 (some (.inl (G.2.1 5, 1002, .inr (.inr (.inr (.inr (fun _ => none)))))))) a (some (.inr (3, [.int 1000000, .ref q14, .null])))) q21 (some (.inr (0, [.null])))) u25 (some (.inl (G.2.1 1, 5, .inr (.inl (fun _ => 0)))))) q21 (some (.inr (0, [.ref u25])))) h9)) g25_15) (by simp))).trans g25_16
  have f28_22 : (va_up (va_up (va_up (va_up (va_up (va_up (va_up M a (some (.inr (3, [.int 1000000, .null, .null])))) q14 (some (.inl (G.2.1 5, 1002, .inr (.inr (.inr (.inr (fun _ => none)))))))) a (some (.inr (3, [.int 1000000, .ref q14, .null])))) q21 (some (.inr (0, [.null])))) u25 (some (.inl (G.2.1 1, 5, .inr (.inl (fun _ => 0)))))) q21 (some (.inr (0, [.ref u25])))) a (some (.inr (3, [.int 1000000, .ref q14, .ref q21])))) q21 = some (.inr (0, [.ref u25])) := (up_ne (fun h9 => absurd (Eq.trans (Eq.trans (Eq.symm g25_17) (congrArg (va_up (va_up (va_up (va_up (va_up (va_up M a (some (.inr (3, [.int 1000000, .null, .null])))) q14 (some (.inl (G.2.1 5, 1002, .inr (.inr (.inr (.inr (fun _ => none)))))))) a (some (.inr (3, [.int 1000000, .ref q14, .null])))) q21 (some (.inr (0, [.null])))) u25 (some (.inl (G.2.1 1, 5, .inr (.inl (fun _ => 0)))))) q21 (some (.inr (0, [.ref u25])))) h9)) g25_15) (by simp))).trans g25_17
  have f28_23 : (va_up (va_up (va_up (va_up (va_up (va_up (va_up M a (some (.inr (3, [.int 1000000, .null, .null])))) q14 (some (.inl (G.2.1 5, 1002, .inr (.inr (.inr (.inr (fun _ => none)))))))) a (some (.inr (3, [.int 1000000, .ref q14, .null])))) q21 (some (.inr (0, [.null])))) u25 (some (.inl (G.2.1 1, 5, .inr (.inl (fun _ => 0)))))) q21 (some (.inr (0, [.ref u25])))) a (some (.inr (3, [.int 1000000, .ref q14, .ref q21])))) u25 = some (.inl (G.2.1 1, 5, .inr (.inl (fun _ => 0)))) := (up_ne (fun h9 => absurd (Eq.trans (Eq.trans (Eq.symm g25_18) (congrArg (va_up (va_up (va_up (va_up (va_up (va_up M a (some (.inr (3, [.int 1000000, .null, .null])))) q14 (some (.inl (G.2.1 5, 1002, .inr (.inr (.inr (.inr (fun _ => none)))))))) a (some (.inr (3, [.int 1000000, .ref q14, .null])))) q21 (some (.inr (0, [.null])))) u25 (some (.inl (G.2.1 1, 5, .inr (.inl (fun _ => 0)))))) q21 (some (.inr (0, [.ref u25])))) h9)) g25_15) (by simp))).trans g25_18
  have na1 : a ≠ q14 := fun h9 => by have h8 := hn14; rw [← h9] at h8; simp [va_up] at h8
  have nq1 : q21 ≠ u25 := fun h9 => by have h8 := hp25; rw [← h9] at h8; simp [va_up] at h8
  have nq2 : q14 ≠ q21 := fun h9 => by have h8 := hn21; rw [← h9] at h8; simp [va_up, Ne.symm na1] at h8
  have nq3 : q14 ≠ u25 := fun h9 => by have h8 := hp25; rw [← h9] at h8; simp [va_up, nq2, Ne.symm na1] at h8
  have na2 : a ≠ q21 := fun h9 => by have h8 := hn21; rw [← h9] at h8; simp [va_up, na1] at h8
  have na3 : a ≠ u25 := fun h9 => by have h8 := hp25; rw [← h9] at h8; simp [va_up, na1, na2] at h8
  have e9 : (va_up (va_up (va_up (va_up (va_up (va_up (va_up M a (some (.inr (3, [.int 1000000, .null, .null])))) q14 (some (.inl (G.2.1 5, 1002, .inr (.inr (.inr (.inr (fun _ => none)))))))) a (some (.inr (3, [.int 1000000, .ref q14, .null])))) q21 (some (.inr (0, [.null])))) u25 (some (.inl (G.2.1 1, 5, .inr (.inl (fun _ => 0)))))) q21 (some (.inr (0, [.ref u25])))) a (some (.inr (3, [.int 1000000, .ref q14, .ref q21])))) = va_up (va_up (va_up (va_up M a (some (.inr (3, [.int 1000000, .ref q14, .ref q21])))) q14 (some (.inl (G.2.1 5, 1002, .inr (.inr (.inr (.inr (fun _ => none)))))))) q21 (some (.inr (0, [.ref u25])))) u25 (some (.inl (G.2.1 1, 5, .inr (.inl (fun _ => 0))))) := by
    funext b9
    by_cases h0 : b9 = a
    · subst h0; simp [va_up, na1, na2, na3]
    · by_cases h1 : b9 = u25
      · subst h1; simp [va_up, h0, Ne.symm nq1, Ne.symm nq3]
      · by_cases h2 : b9 = q21
        · subst h2; simp [va_up, h0, h1]
        · by_cases h3 : b9 = q14
          · subst h3; simp [va_up, h0, h1, h2]
          · simp [va_up, h0, h1, h2, h3]
  rw [e9] at hM
  have m1 : M q21 = none := by have h8 := hn21; simpa [va_up, Ne.symm nq2, Ne.symm na2] using h8
  have m2 : M u25 = none := by have h8 := hp25; simpa [va_up, Ne.symm nq1, Ne.symm nq3, Ne.symm na3] using h8
  have m0 : M q14 = none := by have h8 := hn14; simpa [va_up, Ne.symm na1] using h8
  exact (r_v hx hb hr hlocks hS (q14, q21, u25) ⟨m0, m1, m2, nq2, nq3, nq1⟩ hM (Nat.le_of_ble_eq_true rfl) (Nat.le_of_ble_eq_true rfl) dX3_init_31)
set_option maxHeartbeats 4000000 in
set_option maxRecDepth 100000 in
theorem c_X4_init (l : Launch) (G : Gx) (M : Mp) (a cu cy : Nat) (bu lf ag fi la : Int32) (fa : M a = some (.inr (4, [.null, .null, .int 0, .int 0, .int 0, .int 0, .int 0]))) (hbu : bu = 0 ∨ bu = 1) : Met l yX4_init wsX4_init ({ frames := 1, cells := 0, slots := 0, locals := 20 }) (Cv G M [.ref a, .ref cu, .ref cy, .int bu, .int lf, .int ag, .int fi, .int la]) (va_Qv (S := Unit) (fun _ => True) (Bm G (fun _ => va_up M a (some (.inr (4, [.ref cu, .ref cy, .int bu, .int lf, .int ag, .int fi, .int la]))))) (AG G)) (0) (0) (AG G) := by
  refine m_met [.ref a, .ref cu, .ref cy, .int bu, .int lf, .int ag, .int fi, .int la] [(0, .ref a), (1, .ref cu), (2, .ref cy), (3, .int bu), (4, .int lf), (5, .int ag), (6, .int fi), (7, .int la)] (by decide) rfl rfl (Nat.le_of_ble_eq_true rfl) ?_
  intro p e s m below meth c ls hx hb hr hml hown hts hlocks hin hC hM hl hS
  refine lv_aload_n hx hb dX4_init_0 rfl (lv_at hl 0 rfl) ?_
  refine W.objInit hx hb hown (hts (.methodLink RX4 3 objectInit) (by decide +kernel)) (hts (.instanceMethod objectInit) (by decide +kernel)) (hts (.code objectInit ⟨#[0xb1]⟩ 1 none) (by decide +kernel)) rfl (by rw [hml]; exact hl.1) rfl dX4_init_1 (Nat.le_of_ble_eq_true rfl) (Nat.le_of_ble_eq_true rfl) ?_
  refine W.eq (g2 := F0 m 4 ls []) rfl ?_
  refine lv_aload_n hx hb dX4_init_4 rfl (lv_at hl 0 rfl) ?_
  refine lv_aload_n hx hb dX4_init_5 rfl (lv_at hl 1 rfl) ?_
  refine m_putF (host := "") (ci := 4) (v := .ref cu) (ty := .object "Forwardroll$Customer") (C := RX4) (T := TX4) (N := 7) (a := a) hx hb hts (by decide +kernel) tyX4 tyX4_ok nmX4 hown hC hM hS fa rfl 0 (by decide) (hts (.fieldLink RX4 9 "Forwardroll$Deal" "customer" "LForwardroll$Customer;") (by decide +kernel)) (fun _ h9 => h9) rfl hin rfl (by decide +kernel) rfl rfl (Nat.le_of_ble_eq_true rfl) dX4_init_6 (fun H locs hM hS => ?_)
  have hM : Hm G (va_up M a (some (.inr (4, [.ref cu, .null, .int 0, .int 0, .int 0, .int 0, .int 0])))) H := hM
  have f6_2 : (va_up M a (some (.inr (4, [.ref cu, .null, .int 0, .int 0, .int 0, .int 0, .int 0])))) a = some (.inr (4, [.ref cu, .null, .int 0, .int 0, .int 0, .int 0, .int 0])) := up_eq
  refine lv_aload_n hx hb dX4_init_9 rfl (lv_at hl 0 rfl) ?_
  refine lv_aload_n hx hb dX4_init_10 rfl (lv_at hl 2 rfl) ?_
  refine m_putF (host := "") (ci := 4) (v := .ref cy) (ty := .object "Forwardroll$Currency") (C := RX4) (T := TX4) (N := 7) (a := a) hx hb hts (by decide +kernel) tyX4 tyX4_ok nmX4 hown hC hM hS f6_2 rfl 1 (by decide) (hts (.fieldLink RX4 15 "Forwardroll$Deal" "currency" "LForwardroll$Currency;") (by decide +kernel)) (fun _ h9 => h9) rfl hin rfl (by decide +kernel) rfl rfl (Nat.le_of_ble_eq_true rfl) dX4_init_11 (fun H locs hM hS => ?_)
  have hM : Hm G (va_up M a (some (.inr (4, [.ref cu, .ref cy, .int 0, .int 0, .int 0, .int 0, .int 0])))) H := up2 ▸ hM
  have f11_4 : (va_up M a (some (.inr (4, [.ref cu, .ref cy, .int 0, .int 0, .int 0, .int 0, .int 0])))) a = some (.inr (4, [.ref cu, .ref cy, .int 0, .int 0, .int 0, .int 0, .int 0])) := up_eq
  refine lv_aload_n hx hb dX4_init_14 rfl (lv_at hl 0 rfl) ?_
  refine lv_iload_n hx hb dX4_init_15 rfl (lv_at hl 3 rfl) ?_
  refine m_putF (host := "") (ci := 4) (v := .int bu) (ty := .boolean) (C := RX4) (T := TX4) (N := 7) (a := a) hx hb hts (by decide +kernel) tyX4 tyX4_ok nmX4 hown hC hM hS f11_4 rfl 2 (by decide) (hts (.fieldLink RX4 19 "Forwardroll$Deal" "buys" "Z") (by decide +kernel)) (fun _ h9 => h9) rfl hin rfl (by decide +kernel) (by rcases hbu with rfl | rfl <;> rfl) (by rcases hbu with rfl | rfl <;> rfl) (Nat.le_of_ble_eq_true rfl) dX4_init_16 (fun H locs hM hS => ?_)
  have hM : Hm G (va_up M a (some (.inr (4, [.ref cu, .ref cy, .int bu, .int 0, .int 0, .int 0, .int 0])))) H := up2 ▸ hM
  have f16_6 : (va_up M a (some (.inr (4, [.ref cu, .ref cy, .int bu, .int 0, .int 0, .int 0, .int 0])))) a = some (.inr (4, [.ref cu, .ref cy, .int bu, .int 0, .int 0, .int 0, .int 0])) := up_eq
  refine lv_aload_n hx hb dX4_init_19 rfl (lv_at hl 0 rfl) ?_
  refine lv_iload hx hb dX4_init_20 (lv_at hl 4 rfl) ?_
  refine m_put (host := "") (ci := 4) (v := .int lf) (ty := .int) (C := RX4) (T := TX4) (N := 7) (a := a) hx hb hts (by decide +kernel) tyX4 tyX4_ok nmX4 hown hC hM hS f16_6 rfl 3 (by decide) (hts (.fieldLink RX4 23 "Forwardroll$Deal" "amountLeft" "I") (by decide +kernel)) (fun _ h9 => h9) rfl (by decide +kernel) rfl rfl (Nat.le_of_ble_eq_true rfl) dX4_init_22 (fun H locs hM hS => ?_)
  have hM : Hm G (va_up M a (some (.inr (4, [.ref cu, .ref cy, .int bu, .int lf, .int 0, .int 0, .int 0])))) H := up2 ▸ hM
  have f22_8 : (va_up M a (some (.inr (4, [.ref cu, .ref cy, .int bu, .int lf, .int 0, .int 0, .int 0])))) a = some (.inr (4, [.ref cu, .ref cy, .int bu, .int lf, .int 0, .int 0, .int 0])) := up_eq
  refine lv_aload_n hx hb dX4_init_25 rfl (lv_at hl 0 rfl) ?_
  refine lv_iload hx hb dX4_init_26 (lv_at hl 5 rfl) ?_
  refine m_put (host := "") (ci := 4) (v := .int ag) (ty := .int) (C := RX4) (T := TX4) (N := 7) (a := a) hx hb hts (by decide +kernel) tyX4 tyX4_ok nmX4 hown hC hM hS f22_8 rfl 4 (by decide) (hts (.fieldLink RX4 27 "Forwardroll$Deal" "agreedRate" "I") (by decide +kernel)) (fun _ h9 => h9) rfl (by decide +kernel) rfl rfl (Nat.le_of_ble_eq_true rfl) dX4_init_28 (fun H locs hM hS => ?_)
  have hM : Hm G (va_up M a (some (.inr (4, [.ref cu, .ref cy, .int bu, .int lf, .int ag, .int 0, .int 0])))) H := up2 ▸ hM
  have f28_10 : (va_up M a (some (.inr (4, [.ref cu, .ref cy, .int bu, .int lf, .int ag, .int 0, .int 0])))) a = some (.inr (4, [.ref cu, .ref cy, .int bu, .int lf, .int ag, .int 0, .int 0])) := up_eq
  refine lv_aload_n hx hb dX4_init_31 rfl (lv_at hl 0 rfl) ?_
  refine lv_iload hx hb dX4_init_32 (lv_at hl 6 rfl) ?_
  refine m_put (host := "") (ci := 4) (v := .int fi) (ty := .int) (C := RX4) (T := TX4) (N := 7) (a := a) hx hb hts (by decide +kernel) tyX4 tyX4_ok nmX4 hown hC hM hS f28_10 rfl 5 (by decide) (hts (.fieldLink RX4 30 "Forwardroll$Deal" "firstDay" "I") (by decide +kernel)) (fun _ h9 => h9) rfl (by decide +kernel) rfl rfl (Nat.le_of_ble_eq_true rfl) dX4_init_34 (fun H locs hM hS => ?_)
  have hM : Hm G (va_up M a (some (.inr (4, [.ref cu, .ref cy, .int bu, .int lf, .int ag, .int fi, .int 0])))) H := up2 ▸ hM
  have f34_12 : (va_up M a (some (.inr (4, [.ref cu, .ref cy, .int bu, .int lf, .int ag, .int fi, .int 0])))) a = some (.inr (4, [.ref cu, .ref cy, .int bu, .int lf, .int ag, .int fi, .int 0])) := up_eq
  refine lv_aload_n hx hb dX4_init_37 rfl (lv_at hl 0 rfl) ?_
  refine lv_iload hx hb dX4_init_38 (lv_at hl 7 rfl) ?_
  refine m_put (host := "") (ci := 4) (v := .int la) (ty := .int) (C := RX4) (T := TX4) (N := 7) (a := a) hx hb hts (by decide +kernel) tyX4 tyX4_ok nmX4 hown hC hM hS f34_12 rfl 6 (by decide) (hts (.fieldLink RX4 33 "Forwardroll$Deal" "lastDay" "I") (by decide +kernel)) (fun _ h9 => h9) rfl (by decide +kernel) rfl rfl (Nat.le_of_ble_eq_true rfl) dX4_init_40 (fun H locs hM hS => ?_)
  have hM : Hm G (va_up M a (some (.inr (4, [.ref cu, .ref cy, .int bu, .int lf, .int ag, .int fi, .int la])))) H := up2 ▸ hM
  have f40_14 : (va_up M a (some (.inr (4, [.ref cu, .ref cy, .int bu, .int lf, .int ag, .int fi, .int la])))) a = some (.inr (4, [.ref cu, .ref cy, .int bu, .int lf, .int ag, .int fi, .int la])) := up_eq
  exact (r_v hx hb hr hlocks hS () trivial hM (Nat.le_of_ble_eq_true rfl) (Nat.le_of_ble_eq_true rfl) dX4_init_43)
end
section
/-! THE WORLD OF THE DESK AND OF THE REFERENCE, by roles. S.1: 0 0 today; 1 i rate, 2 i points of currency i; 3 i limit of customer i; 4 d holiday; 5 0 how many deals; 6 j customer, 7 j currency, 8 j buys, 9 j left, 10 j rate, 11 j first, 12 j last of deal j. S.2: 2 c limit of customer c as a long; 0 (25 * day + 5 * customer + money) due; 1 (5 * customer + money) balance -/
abbrev Sd : Type := (Nat → Nat → Int32) × (Nat → Nat → Int64)
def u2 {α : Type} (f : Nat → Nat → α) (a b : Nat) (v : α) : Nat → Nat → α := fun x y => if x = a then (if y = b then v else f x y) else f x y
theorem u2_s {α : Type} {f : Nat → Nat → α} {a b : Nat} {v : α} : u2 f a b v a b = v := by simp [u2]
theorem u2_n {α : Type} {f : Nat → Nat → α} {a b x y : Nat} {v : α} (h : ¬ (x = a ∧ y = b)) : u2 f a b v x y = f x y := by
  unfold u2
  by_cases h1 : x = a
  · rw [if_pos h1, if_neg (fun h2 => h ⟨h1, h2⟩)]
  · rw [if_neg h1]
def ndl (S : Sd) : Nat := (S.1 5 0).toNatClampNeg
def cus (S : Sd) (j : Nat) : Nat := (S.1 6 j).toNatClampNeg
def cuy (S : Sd) (j : Nat) : Nat := (S.1 7 j).toNatClampNeg
def ntr (ex : Nat → Bool) (ad : Nat → Nat → Nat) (c : Nat) : Nat → Option Nat := fun d => if ex (5 * d + c) = true then some (ad 12 (5 * d + c)) else none
def dlr (S : Sd) (ad : Nat → Nat → Nat) : Nat → Option Nat := fun j => if j < ndl S then some (ad 11 j) else none
/-- what the cell of role k i holds -/
def ct (kA : Nat → ClassId) (S T : Sd) (th : Int32) (o : Int64) (ex : Nat → Bool) (ad : Nat → Nat → Nat) (k i : Nat) : Option va_E := match k with
  | 0 => if i = 0 then some (.inr (5, [.ref (ad 1 0), .ref (ad 3 0), .ref (ad 5 0), .ref (ad 10 0), .int (S.1 5 0)])) else none
  | 1 => if i = 0 then some (.inr (1, [.ref (ad 2 0), .int (S.1 0 0)])) else none
  | 2 => if i = 0 then some (.inl (kA 2, 1001, .inl (S.1 4))) else none
  | 3 => if i = 0 then some (.inl (kA 3, 4, .inr (.inr (.inr (.inr (fun c => if c < 4 then some (ad 4 c) else none)))))) else none
  | 4 => if i < 4 then some (.inr (2, [.int (nI i), .int (S.1 1 i), .int (S.1 2 i)])) else none
  | 5 => if i = 0 then some (.inl (kA 4, 5, .inr (.inr (.inr (.inr (fun c => if c < 5 then some (ad 6 c) else none)))))) else none
  | 6 => if i < 5 then some (.inr (3, [.int (S.1 3 i), .ref (ad 7 i), .ref (ad 8 i)])) else none
  | 7 => if i < 5 then some (.inl (kA 5, 1002, .inr (.inr (.inr (.inr (ntr ex ad i)))))) else none
  | 8 => if i < 5 then some (.inr (0, [.ref (ad 9 i)])) else none
  | 9 => if i < 5 then some (.inl (kA 1, 5, .inr (.inl (fun m => S.2 1 (5 * i + m))))) else none
  | 10 => if i = 0 then some (.inl (kA 6, 20, .inr (.inr (.inr (.inr (dlr S ad)))))) else none
  | 11 => if i < ndl S then some (.inr (4, [.ref (ad 6 (cus S i)), .ref (ad 4 (cuy S i)), .int (S.1 8 i), .int (S.1 9 i), .int (S.1 10 i), .int (S.1 11 i), .int (S.1 12 i)])) else none
  | 12 => if ex i = true then some (.inr (0, [.ref (ad 13 i)])) else none
  | 13 => if ex i = true then some (.inl (kA 1, 5, .inr (.inl (fun m => S.2 0 (5 * i + m))))) else none
  | 14 => if i = 0 then some (.inr (6, [.int th, .int (T.1 0 0), .ref (ad 15 0), .ref (ad 16 0), .ref (ad 17 0), .ref (ad 18 0), .int (T.1 5 0), .ref (ad 19 0), .ref (ad 20 0), .ref (ad 21 0), .ref (ad 22 0), .ref (ad 23 0), .ref (ad 24 0), .ref (ad 25 0), .ref (ad 26 0), .ref (ad 27 0)])) else none
  | 15 => if i = 0 then some (.inl (kA 0, 4, .inl (T.1 1))) else none
  | 16 => if i = 0 then some (.inl (kA 0, 4, .inl (T.1 2))) else none
  | 17 => if i = 0 then some (.inl (kA 1, 5, .inr (.inl (T.2 2)))) else none
  | 18 => if i = 0 then some (.inl (kA 2, 1001, .inl (T.1 4))) else none
  | 19 => if i = 0 then some (.inl (kA 0, 20, .inl (T.1 6))) else none
  | 20 => if i = 0 then some (.inl (kA 0, 20, .inl (T.1 7))) else none
  | 21 => if i = 0 then some (.inl (kA 2, 20, .inl (T.1 8))) else none
  | 22 => if i = 0 then some (.inl (kA 0, 20, .inl (T.1 9))) else none
  | 23 => if i = 0 then some (.inl (kA 0, 20, .inl (T.1 11))) else none
  | 24 => if i = 0 then some (.inl (kA 0, 20, .inl (T.1 12))) else none
  | 25 => if i = 0 then some (.inl (kA 0, 20, .inl (T.1 10))) else none
  | 26 => if i = 0 then some (.inl (kA 1, 25750, .inr (.inl (T.2 0)))) else none
  | 27 => if i = 0 then some (.inl (kA 1, 25, .inr (.inl (T.2 1)))) else none
  | 28 => if i = 0 then some (.inl (kA 1, 1, .inr (.inl (fun _ => o)))) else none
  | _ => none
/-- what holds of the numbers -/
def Iv (S : Sd) : Prop := (0 ≤ (S.1 0 0).toInt ∧ (S.1 0 0).toInt ≤ 1000) ∧ (0 ≤ (S.1 5 0).toInt ∧ (S.1 5 0).toInt ≤ 20) ∧ (∀ j, j < ndl S → (0 ≤ (S.1 6 j).toInt ∧ (S.1 6 j).toInt < 5) ∧ (0 ≤ (S.1 7 j).toInt ∧ (S.1 7 j).toInt < 4) ∧ (S.1 8 j = 0 ∨ S.1 8 j = 1) ∧ 0 ≤ (S.1 9 j).toInt ∧ 0 ≤ (S.1 12 j).toInt ∧ (S.1 12 j).toInt ≤ (S.1 0 0).toInt + 400) ∧ (∀ d, S.1 4 d = 0 ∨ S.1 4 d = 1) ∧ (∀ c, S.2 2 c = (S.1 3 c).toInt64)
def Ix (S : Sd) (ex : Nat → Bool) : Prop := (∀ x, ex x = false → ∀ m, m < 5 → S.2 0 (5 * x + m) = 0) ∧ ∀ x, ex x = true → x < 5010
def WA (G : Gx) (S T : Sd) (th : Int32) (o : Int64) (ex : Nat → Bool) (ad : Nat → Nat → Nat) (M : Mp) : Prop :=
  (∀ k i e, ct G.2.1 S T th o ex ad k i = some e → M (ad k i) = some e) ∧
  (∀ k i k' i' e e', ct G.2.1 S T th o ex ad k i = some e → ct G.2.1 S T th o ex ad k' i' = some e' → ad k i = ad k' i' → k = k' ∧ i = i')
section WAS
variable {G : Gx} {S S' T T' : Sd} {th th' : Int32} {o o' : Int64} {ex : Nat → Bool} {ad : Nat → Nat → Nat} {M : Mp}
theorem WA.up (h : WA G S T th o ex ad M) (k0 i0 : Nat) {e0 e1 : va_E} (h0 : ct G.2.1 S T th o ex ad k0 i0 = some e0)
    (hc : ∀ k i, ct G.2.1 S' T' th' o' ex ad k i = if k = k0 ∧ i = i0 then some e1 else ct G.2.1 S T th o ex ad k i) : WA G S' T' th' o' ex ad (va_up M (ad k0 i0) (some e1)) := by
  have lv : ∀ k i e, ct G.2.1 S' T' th' o' ex ad k i = some e → ∃ f, ct G.2.1 S T th o ex ad k i = some f := by
    intro k i e he
    rw [hc] at he
    by_cases h1 : k = k0 ∧ i = i0
    · obtain ⟨rfl, rfl⟩ := h1
      exact ⟨_, h0⟩
    · rw [if_neg h1] at he
      exact ⟨_, he⟩
  refine ⟨fun k i e he => ?_, fun k i k' i' e e' h1 h2 h3 => ?_⟩
  · have he0 := he
    rw [hc] at he
    by_cases h1 : k = k0 ∧ i = i0
    · rw [if_pos h1] at he
      obtain ⟨rfl, rfl⟩ := h1
      rw [← he]
      exact up_eq
    · rw [if_neg h1] at he
      rw [up_ne (fun h2 => h1 (h.2 k i k0 i0 e e0 he h0 h2))]
      exact h.1 k i e he
  · obtain ⟨f, hf⟩ := lv k i e h1
    obtain ⟨f', hf'⟩ := lv k' i' e' h2
    exact h.2 k i k' i' f f' hf hf' h3
theorem WA.fresh (h : WA G S T th o ex ad M) {q : Nat} (hq : M q = none) (x : Option va_E) : WA G S T th o ex ad (va_up M q x) := by
  refine ⟨fun k i e he => ?_, h.2⟩
  have h1 := h.1 k i e he
  rw [up_ne (fun h2 => by rw [h2, hq] at h1; cases h1)]
  exact h1
theorem WA.same (h : WA G S T th o ex ad M) (hc : ∀ k i, ct G.2.1 S' T' th' o' ex ad k i = ct G.2.1 S T th o ex ad k i) : WA G S' T' th' o' ex ad M := by
  refine ⟨fun k i e he => h.1 k i e (by rw [← hc]; exact he), fun k i k' i' e e' h1 h2 h3 => h.2 k i k' i' e e' (by rw [← hc]; exact h1) (by rw [← hc]; exact h2) h3⟩
theorem WA.ne (h : WA G S T th o ex ad M) {k i k' i' : Nat} {e e' : va_E} (h1 : ct G.2.1 S T th o ex ad k i = some e) (h2 : ct G.2.1 S T th o ex ad k' i' = some e') (h3 : ¬ (k = k' ∧ i = i')) : ad k i ≠ ad k' i' := fun h4 => h3 (h.2 k i k' i' e e' h1 h2 h4)
theorem ct0 : ct G.2.1 S T th o ex ad 0 0 = some (.inr (5, [.ref (ad 1 0), .ref (ad 3 0), .ref (ad 5 0), .ref (ad 10 0), .int (S.1 5 0)])) := rfl
theorem ct1 : ct G.2.1 S T th o ex ad 1 0 = some (.inr (1, [.ref (ad 2 0), .int (S.1 0 0)])) := rfl
theorem ct2 : ct G.2.1 S T th o ex ad 2 0 = some (.inl (G.2.1 2, 1001, .inl (S.1 4))) := rfl
theorem ct3 : ct G.2.1 S T th o ex ad 3 0 = some (.inl (G.2.1 3, 4, .inr (.inr (.inr (.inr (fun c => if c < 4 then some (ad 4 c) else none)))))) := rfl
theorem ct4 {i : Nat} (hi : i < 4) : ct G.2.1 S T th o ex ad 4 i = some (.inr (2, [.int (nI i), .int (S.1 1 i), .int (S.1 2 i)])) := if_pos hi
theorem ct5 : ct G.2.1 S T th o ex ad 5 0 = some (.inl (G.2.1 4, 5, .inr (.inr (.inr (.inr (fun c => if c < 5 then some (ad 6 c) else none)))))) := rfl
theorem ct6 {i : Nat} (hi : i < 5) : ct G.2.1 S T th o ex ad 6 i = some (.inr (3, [.int (S.1 3 i), .ref (ad 7 i), .ref (ad 8 i)])) := if_pos hi
theorem ct7 {i : Nat} (hi : i < 5) : ct G.2.1 S T th o ex ad 7 i = some (.inl (G.2.1 5, 1002, .inr (.inr (.inr (.inr (ntr ex ad i)))))) := if_pos hi
theorem ct8 {i : Nat} (hi : i < 5) : ct G.2.1 S T th o ex ad 8 i = some (.inr (0, [.ref (ad 9 i)])) := if_pos hi
theorem ct9 {i : Nat} (hi : i < 5) : ct G.2.1 S T th o ex ad 9 i = some (.inl (G.2.1 1, 5, .inr (.inl (fun m => S.2 1 (5 * i + m))))) := if_pos hi
theorem ct10 : ct G.2.1 S T th o ex ad 10 0 = some (.inl (G.2.1 6, 20, .inr (.inr (.inr (.inr (dlr S ad)))))) := rfl
theorem ct11 {i : Nat} (hi : i < ndl S) : ct G.2.1 S T th o ex ad 11 i = some (.inr (4, [.ref (ad 6 (cus S i)), .ref (ad 4 (cuy S i)), .int (S.1 8 i), .int (S.1 9 i), .int (S.1 10 i), .int (S.1 11 i), .int (S.1 12 i)])) := if_pos hi
theorem ct12 {i : Nat} (hi : ex i = true) : ct G.2.1 S T th o ex ad 12 i = some (.inr (0, [.ref (ad 13 i)])) := if_pos hi
theorem ct13 {i : Nat} (hi : ex i = true) : ct G.2.1 S T th o ex ad 13 i = some (.inl (G.2.1 1, 5, .inr (.inl (fun m => S.2 0 (5 * i + m))))) := if_pos hi
theorem Iv.nd (h : Iv S) : ndl S ≤ 20 := by
  have h1 := h.2.1
  unfold ndl
  rw [Int32.toNatClampNeg]
  omega
theorem Iv.cu (h : Iv S) {j : Nat} (hj : j < ndl S) : cus S j < 5 := by
  have h1 := (h.2.2.1 j hj).1
  unfold cus
  rw [Int32.toNatClampNeg]
  omega
theorem Iv.cy (h : Iv S) {j : Nat} (hj : j < ndl S) : cuy S j < 4 := by
  have h1 := (h.2.2.1 j hj).2.1
  unfold cuy
  rw [Int32.toNatClampNeg]
  omega
end WAS
end
section
set_option maxHeartbeats 1000000 in
theorem w_spot {G : Gx} {S T : Sd} {th : Int32} {o : Int64} {ex : Nat → Bool} {ad : Nat → Nat → Nat} {M : Mp} (h : WA G S T th o ex ad M) {c : Nat} (hc : c < 4) (x : Int32) : WA G (u2 S.1 1 c x, S.2) T th o ex ad (va_up M (ad 4 c) (some (.inr (2, [.int (nI c), .int x, .int (S.1 2 c)])))) := by
  refine h.up 4 c (e0 := _) (ct4 hc) (fun k i => ?_)
  by_cases hk : k = 4 ∧ i = c
  · obtain ⟨rfl, rfl⟩ := hk
    rw [if_pos ⟨rfl, rfl⟩]
    show (if i < 4 then some (.inr (2, [.int (nI i), .int (u2 S.1 1 i x 1 i), .int (S.1 2 i)])) else none : Option va_E) = _; rw [u2_s, if_pos hc]
  · rw [if_neg hk]
    match k, hk with
    | 0, _ => rfl
    | 1, _ => rfl
    | 2, _ => rfl
    | 3, _ => rfl
    | 4, hk => have hi : ¬ i = c := fun z => hk ⟨rfl, z⟩; show (if i < 4 then some (.inr (2, [.int (nI i), .int (u2 S.1 1 c x 1 i), .int (S.1 2 i)])) else none : Option va_E) = _; rw [u2_n (fun z => hi z.2)]; rfl
    | 5, _ => rfl
    | 6, _ => rfl
    | 7, _ => rfl
    | 8, _ => rfl
    | 9, _ => rfl
    | 10, _ => rfl
    | 11, _ => rfl
    | 12, _ => rfl
    | 13, _ => rfl
    | 14, _ => rfl
    | 15, _ => rfl
    | 16, _ => rfl
    | 17, _ => rfl
    | 18, _ => rfl
    | 19, _ => rfl
    | 20, _ => rfl
    | 21, _ => rfl
    | 22, _ => rfl
    | 23, _ => rfl
    | 24, _ => rfl
    | 25, _ => rfl
    | 26, _ => rfl
    | 27, _ => rfl
    | 28, _ => rfl
    | k + 29, _ => rfl
set_option maxHeartbeats 1000000 in
theorem w_pts {G : Gx} {S T : Sd} {th : Int32} {o : Int64} {ex : Nat → Bool} {ad : Nat → Nat → Nat} {M : Mp} (h : WA G S T th o ex ad M) {c : Nat} (hc : c < 4) (x : Int32) : WA G (u2 S.1 2 c x, S.2) T th o ex ad (va_up M (ad 4 c) (some (.inr (2, [.int (nI c), .int (S.1 1 c), .int x])))) := by
  refine h.up 4 c (e0 := _) (ct4 hc) (fun k i => ?_)
  by_cases hk : k = 4 ∧ i = c
  · obtain ⟨rfl, rfl⟩ := hk
    rw [if_pos ⟨rfl, rfl⟩]
    show (if i < 4 then some (.inr (2, [.int (nI i), .int (S.1 1 i), .int (u2 S.1 2 i x 2 i)])) else none : Option va_E) = _; rw [u2_s, if_pos hc]
  · rw [if_neg hk]
    match k, hk with
    | 0, _ => rfl
    | 1, _ => rfl
    | 2, _ => rfl
    | 3, _ => rfl
    | 4, hk => have hi : ¬ i = c := fun z => hk ⟨rfl, z⟩; show (if i < 4 then some (.inr (2, [.int (nI i), .int (S.1 1 i), .int (u2 S.1 2 c x 2 i)])) else none : Option va_E) = _; rw [u2_n (fun z => hi z.2)]; rfl
    | 5, _ => rfl
    | 6, _ => rfl
    | 7, _ => rfl
    | 8, _ => rfl
    | 9, _ => rfl
    | 10, _ => rfl
    | 11, _ => rfl
    | 12, _ => rfl
    | 13, _ => rfl
    | 14, _ => rfl
    | 15, _ => rfl
    | 16, _ => rfl
    | 17, _ => rfl
    | 18, _ => rfl
    | 19, _ => rfl
    | 20, _ => rfl
    | 21, _ => rfl
    | 22, _ => rfl
    | 23, _ => rfl
    | 24, _ => rfl
    | 25, _ => rfl
    | 26, _ => rfl
    | 27, _ => rfl
    | 28, _ => rfl
    | k + 29, _ => rfl
set_option maxHeartbeats 1000000 in
theorem w_lim {G : Gx} {S T : Sd} {th : Int32} {o : Int64} {ex : Nat → Bool} {ad : Nat → Nat → Nat} {M : Mp} (h : WA G S T th o ex ad M) {c : Nat} (hc : c < 5) (x : Int32) (y : Int64) : WA G (u2 S.1 3 c x, u2 S.2 2 c y) T th o ex ad (va_up M (ad 6 c) (some (.inr (3, [.int x, .ref (ad 7 c), .ref (ad 8 c)])))) := by
  refine h.up 6 c (e0 := _) (ct6 hc) (fun k i => ?_)
  by_cases hk : k = 6 ∧ i = c
  · obtain ⟨rfl, rfl⟩ := hk
    rw [if_pos ⟨rfl, rfl⟩]
    show (if i < 5 then some (.inr (3, [.int (u2 S.1 3 i x 3 i), .ref (ad 7 i), .ref (ad 8 i)])) else none : Option va_E) = _; rw [u2_s, if_pos hc]
  · rw [if_neg hk]
    match k, hk with
    | 0, _ => rfl
    | 1, _ => rfl
    | 2, _ => rfl
    | 3, _ => rfl
    | 4, _ => rfl
    | 5, _ => rfl
    | 6, hk => have hi : ¬ i = c := fun z => hk ⟨rfl, z⟩; show (if i < 5 then some (.inr (3, [.int (u2 S.1 3 c x 3 i), .ref (ad 7 i), .ref (ad 8 i)])) else none : Option va_E) = _; rw [u2_n (fun z => hi z.2)]; rfl
    | 7, _ => rfl
    | 8, _ => rfl
    | 9, _ => rfl
    | 10, _ => rfl
    | 11, _ => rfl
    | 12, _ => rfl
    | 13, _ => rfl
    | 14, _ => rfl
    | 15, _ => rfl
    | 16, _ => rfl
    | 17, _ => rfl
    | 18, _ => rfl
    | 19, _ => rfl
    | 20, _ => rfl
    | 21, _ => rfl
    | 22, _ => rfl
    | 23, _ => rfl
    | 24, _ => rfl
    | 25, _ => rfl
    | 26, _ => rfl
    | 27, _ => rfl
    | 28, _ => rfl
    | k + 29, _ => rfl
set_option maxHeartbeats 1000000 in
theorem w_hol {G : Gx} {S T : Sd} {th : Int32} {o : Int64} {ex : Nat → Bool} {ad : Nat → Nat → Nat} {M : Mp} (h : WA G S T th o ex ad M) (d : Nat) (v : Int32) : WA G (u2 S.1 4 d v, S.2) T th o ex ad (va_up M (ad 2 0) (some (.inl (G.2.1 2, 1001, .inl (upd (S.1 4) d v))))) := by
  refine h.up 2 0 (e0 := _) ct2 (fun k i => ?_)
  by_cases hk : k = 2 ∧ i = 0
  · obtain ⟨rfl, rfl⟩ := hk
    rw [if_pos ⟨rfl, rfl⟩]
    rfl
  · rw [if_neg hk]
    match k, hk with
    | 0, _ => rfl
    | 1, _ => rfl
    | 2, hk => have hi : ¬ i = 0 := fun z => hk ⟨rfl, z⟩; show (if i = 0 then _ else none) = (if i = 0 then _ else none); rw [if_neg hi, if_neg hi]
    | 3, _ => rfl
    | 4, _ => rfl
    | 5, _ => rfl
    | 6, _ => rfl
    | 7, _ => rfl
    | 8, _ => rfl
    | 9, _ => rfl
    | 10, _ => rfl
    | 11, _ => rfl
    | 12, _ => rfl
    | 13, _ => rfl
    | 14, _ => rfl
    | 15, _ => rfl
    | 16, _ => rfl
    | 17, _ => rfl
    | 18, _ => rfl
    | 19, _ => rfl
    | 20, _ => rfl
    | 21, _ => rfl
    | 22, _ => rfl
    | 23, _ => rfl
    | 24, _ => rfl
    | 25, _ => rfl
    | 26, _ => rfl
    | 27, _ => rfl
    | 28, _ => rfl
    | k + 29, _ => rfl
set_option maxHeartbeats 1000000 in
theorem w_day {G : Gx} {S T : Sd} {th : Int32} {o : Int64} {ex : Nat → Bool} {ad : Nat → Nat → Nat} {M : Mp} (h : WA G S T th o ex ad M) (v : Int32) : WA G (u2 S.1 0 0 v, S.2) T th o ex ad (va_up M (ad 1 0) (some (.inr (1, [.ref (ad 2 0), .int v])))) := by
  refine h.up 1 0 (e0 := _) ct1 (fun k i => ?_)
  by_cases hk : k = 1 ∧ i = 0
  · obtain ⟨rfl, rfl⟩ := hk
    rw [if_pos ⟨rfl, rfl⟩]
    rfl
  · rw [if_neg hk]
    match k, hk with
    | 0, _ => rfl
    | 1, hk => have hi : ¬ i = 0 := fun z => hk ⟨rfl, z⟩; show (if i = 0 then _ else none) = (if i = 0 then _ else none); rw [if_neg hi, if_neg hi]
    | 2, _ => rfl
    | 3, _ => rfl
    | 4, _ => rfl
    | 5, _ => rfl
    | 6, _ => rfl
    | 7, _ => rfl
    | 8, _ => rfl
    | 9, _ => rfl
    | 10, _ => rfl
    | 11, _ => rfl
    | 12, _ => rfl
    | 13, _ => rfl
    | 14, _ => rfl
    | 15, _ => rfl
    | 16, _ => rfl
    | 17, _ => rfl
    | 18, _ => rfl
    | 19, _ => rfl
    | 20, _ => rfl
    | 21, _ => rfl
    | 22, _ => rfl
    | 23, _ => rfl
    | 24, _ => rfl
    | 25, _ => rfl
    | 26, _ => rfl
    | 27, _ => rfl
    | 28, _ => rfl
    | k + 29, _ => rfl
set_option maxHeartbeats 1000000 in
theorem w_left {G : Gx} {S T : Sd} {th : Int32} {o : Int64} {ex : Nat → Bool} {ad : Nat → Nat → Nat} {M : Mp} (h : WA G S T th o ex ad M) {j : Nat} (hj : j < ndl S) (x : Int32) : WA G (u2 S.1 9 j x, S.2) T th o ex ad (va_up M (ad 11 j) (some (.inr (4, [.ref (ad 6 (cus S j)), .ref (ad 4 (cuy S j)), .int (S.1 8 j), .int (x), .int (S.1 10 j), .int (S.1 11 j), .int (S.1 12 j)])))) := by
  refine h.up 11 j (e0 := _) (ct11 hj) (fun k i => ?_)
  by_cases hk : k = 11 ∧ i = j
  · obtain ⟨rfl, rfl⟩ := hk
    rw [if_pos ⟨rfl, rfl⟩]
    show (if i < ndl S then some (.inr (4, [.ref (ad 6 (cus S i)), .ref (ad 4 (cuy S i)), .int (S.1 8 i), .int (u2 S.1 9 i x 9 i), .int (S.1 10 i), .int (S.1 11 i), .int (S.1 12 i)])) else none : Option va_E) = _; rw [u2_s, if_pos hj]
  · rw [if_neg hk]
    match k, hk with
    | 0, _ => rfl
    | 1, _ => rfl
    | 2, _ => rfl
    | 3, _ => rfl
    | 4, _ => rfl
    | 5, _ => rfl
    | 6, _ => rfl
    | 7, _ => rfl
    | 8, _ => rfl
    | 9, _ => rfl
    | 10, _ => rfl
    | 11, hk => have hi : ¬ i = j := fun z => hk ⟨rfl, z⟩; show (if i < ndl S then some (.inr (4, [.ref (ad 6 (cus S i)), .ref (ad 4 (cuy S i)), .int (S.1 8 i), .int (u2 S.1 9 j x 9 i), .int (S.1 10 i), .int (S.1 11 i), .int (S.1 12 i)])) else none : Option va_E) = _; rw [u2_n (fun z => hi z.2)]; rfl
    | 12, _ => rfl
    | 13, _ => rfl
    | 14, _ => rfl
    | 15, _ => rfl
    | 16, _ => rfl
    | 17, _ => rfl
    | 18, _ => rfl
    | 19, _ => rfl
    | 20, _ => rfl
    | 21, _ => rfl
    | 22, _ => rfl
    | 23, _ => rfl
    | 24, _ => rfl
    | 25, _ => rfl
    | 26, _ => rfl
    | 27, _ => rfl
    | 28, _ => rfl
    | k + 29, _ => rfl
set_option maxHeartbeats 1000000 in
theorem w_rate {G : Gx} {S T : Sd} {th : Int32} {o : Int64} {ex : Nat → Bool} {ad : Nat → Nat → Nat} {M : Mp} (h : WA G S T th o ex ad M) {j : Nat} (hj : j < ndl S) (x : Int32) : WA G (u2 S.1 10 j x, S.2) T th o ex ad (va_up M (ad 11 j) (some (.inr (4, [.ref (ad 6 (cus S j)), .ref (ad 4 (cuy S j)), .int (S.1 8 j), .int (S.1 9 j), .int (x), .int (S.1 11 j), .int (S.1 12 j)])))) := by
  refine h.up 11 j (e0 := _) (ct11 hj) (fun k i => ?_)
  by_cases hk : k = 11 ∧ i = j
  · obtain ⟨rfl, rfl⟩ := hk
    rw [if_pos ⟨rfl, rfl⟩]
    show (if i < ndl S then some (.inr (4, [.ref (ad 6 (cus S i)), .ref (ad 4 (cuy S i)), .int (S.1 8 i), .int (S.1 9 i), .int (u2 S.1 10 i x 10 i), .int (S.1 11 i), .int (S.1 12 i)])) else none : Option va_E) = _; rw [u2_s, if_pos hj]
  · rw [if_neg hk]
    match k, hk with
    | 0, _ => rfl
    | 1, _ => rfl
    | 2, _ => rfl
    | 3, _ => rfl
    | 4, _ => rfl
    | 5, _ => rfl
    | 6, _ => rfl
    | 7, _ => rfl
    | 8, _ => rfl
    | 9, _ => rfl
    | 10, _ => rfl
    | 11, hk => have hi : ¬ i = j := fun z => hk ⟨rfl, z⟩; show (if i < ndl S then some (.inr (4, [.ref (ad 6 (cus S i)), .ref (ad 4 (cuy S i)), .int (S.1 8 i), .int (S.1 9 i), .int (u2 S.1 10 j x 10 i), .int (S.1 11 i), .int (S.1 12 i)])) else none : Option va_E) = _; rw [u2_n (fun z => hi z.2)]; rfl
    | 12, _ => rfl
    | 13, _ => rfl
    | 14, _ => rfl
    | 15, _ => rfl
    | 16, _ => rfl
    | 17, _ => rfl
    | 18, _ => rfl
    | 19, _ => rfl
    | 20, _ => rfl
    | 21, _ => rfl
    | 22, _ => rfl
    | 23, _ => rfl
    | 24, _ => rfl
    | 25, _ => rfl
    | 26, _ => rfl
    | 27, _ => rfl
    | 28, _ => rfl
    | k + 29, _ => rfl
set_option maxHeartbeats 1000000 in
theorem w_win {G : Gx} {S T : Sd} {th : Int32} {o : Int64} {ex : Nat → Bool} {ad : Nat → Nat → Nat} {M : Mp} (h : WA G S T th o ex ad M) {j : Nat} (hj : j < ndl S) (x y : Int32) : WA G (u2 (u2 S.1 11 j x) 12 j y, S.2) T th o ex ad (va_up M (ad 11 j) (some (.inr (4, [.ref (ad 6 (cus S j)), .ref (ad 4 (cuy S j)), .int (S.1 8 j), .int (S.1 9 j), .int (S.1 10 j), .int (x), .int (y)])))) := by
  refine h.up 11 j (e0 := _) (ct11 hj) (fun k i => ?_)
  by_cases hk : k = 11 ∧ i = j
  · obtain ⟨rfl, rfl⟩ := hk
    rw [if_pos ⟨rfl, rfl⟩]
    show (if i < ndl S then some (.inr (4, [.ref (ad 6 (cus S i)), .ref (ad 4 (cuy S i)), .int (S.1 8 i), .int (S.1 9 i), .int (S.1 10 i), .int (u2 S.1 11 i x 11 i), .int (u2 S.1 12 i y 12 i)])) else none : Option va_E) = _; rw [u2_s, u2_s, if_pos hj]
  · rw [if_neg hk]
    match k, hk with
    | 0, _ => rfl
    | 1, _ => rfl
    | 2, _ => rfl
    | 3, _ => rfl
    | 4, _ => rfl
    | 5, _ => rfl
    | 6, _ => rfl
    | 7, _ => rfl
    | 8, _ => rfl
    | 9, _ => rfl
    | 10, _ => rfl
    | 11, hk => have hi : ¬ i = j := fun z => hk ⟨rfl, z⟩; show (if i < ndl S then some (.inr (4, [.ref (ad 6 (cus S i)), .ref (ad 4 (cuy S i)), .int (S.1 8 i), .int (S.1 9 i), .int (S.1 10 i), .int (u2 S.1 11 j x 11 i), .int (u2 S.1 12 j y 12 i)])) else none : Option va_E) = _; rw [u2_n (f := S.1) (a := 11) (fun z => hi z.2), u2_n (f := S.1) (a := 12) (fun z => hi z.2)]; rfl
    | 12, _ => rfl
    | 13, _ => rfl
    | 14, _ => rfl
    | 15, _ => rfl
    | 16, _ => rfl
    | 17, _ => rfl
    | 18, _ => rfl
    | 19, _ => rfl
    | 20, _ => rfl
    | 21, _ => rfl
    | 22, _ => rfl
    | 23, _ => rfl
    | 24, _ => rfl
    | 25, _ => rfl
    | 26, _ => rfl
    | 27, _ => rfl
    | 28, _ => rfl
    | k + 29, _ => rfl
set_option maxHeartbeats 1000000 in
theorem w_out {G : Gx} {S T : Sd} {th : Int32} {o : Int64} {ex : Nat → Bool} {ad : Nat → Nat → Nat} {M : Mp} (h : WA G S T th o ex ad M) (v : Int64) : WA G S T th v ex ad (va_up M (ad 28 0) (some (.inl (G.2.1 1, 1, .inr (.inl (fun _ => v)))))) := by
  refine h.up 28 0 (e0 := _) rfl (fun k i => ?_)
  by_cases hk : k = 28 ∧ i = 0
  · obtain ⟨rfl, rfl⟩ := hk
    rw [if_pos ⟨rfl, rfl⟩]
    rfl
  · rw [if_neg hk]
    match k, hk with
    | 0, _ => rfl
    | 1, _ => rfl
    | 2, _ => rfl
    | 3, _ => rfl
    | 4, _ => rfl
    | 5, _ => rfl
    | 6, _ => rfl
    | 7, _ => rfl
    | 8, _ => rfl
    | 9, _ => rfl
    | 10, _ => rfl
    | 11, _ => rfl
    | 12, _ => rfl
    | 13, _ => rfl
    | 14, _ => rfl
    | 15, _ => rfl
    | 16, _ => rfl
    | 17, _ => rfl
    | 18, _ => rfl
    | 19, _ => rfl
    | 20, _ => rfl
    | 21, _ => rfl
    | 22, _ => rfl
    | 23, _ => rfl
    | 24, _ => rfl
    | 25, _ => rfl
    | 26, _ => rfl
    | 27, _ => rfl
    | 28, hk => have hi : ¬ i = 0 := fun z => hk ⟨rfl, z⟩; show (if i = 0 then _ else none) = (if i = 0 then _ else none); rw [if_neg hi, if_neg hi]
    | k + 29, _ => rfl
set_option maxHeartbeats 1000000 in
theorem w_mth {G : Gx} {S T : Sd} {th : Int32} {o : Int64} {ex : Nat → Bool} {ad : Nat → Nat → Nat} {M : Mp} (h : WA G S T th o ex ad M) (v : Int32) : WA G S T v o ex ad (va_up M (ad 14 0) (some (.inr (6, [.int v, .int (T.1 0 0), .ref (ad 15 0), .ref (ad 16 0), .ref (ad 17 0), .ref (ad 18 0), .int (T.1 5 0), .ref (ad 19 0), .ref (ad 20 0), .ref (ad 21 0), .ref (ad 22 0), .ref (ad 23 0), .ref (ad 24 0), .ref (ad 25 0), .ref (ad 26 0), .ref (ad 27 0)])))) := by
  refine h.up 14 0 (e0 := _) rfl (fun k i => ?_)
  by_cases hk : k = 14 ∧ i = 0
  · obtain ⟨rfl, rfl⟩ := hk
    rw [if_pos ⟨rfl, rfl⟩]
    rfl
  · rw [if_neg hk]
    match k, hk with
    | 0, _ => rfl
    | 1, _ => rfl
    | 2, _ => rfl
    | 3, _ => rfl
    | 4, _ => rfl
    | 5, _ => rfl
    | 6, _ => rfl
    | 7, _ => rfl
    | 8, _ => rfl
    | 9, _ => rfl
    | 10, _ => rfl
    | 11, _ => rfl
    | 12, _ => rfl
    | 13, _ => rfl
    | 14, hk => have hi : ¬ i = 0 := fun z => hk ⟨rfl, z⟩; show (if i = 0 then _ else none) = (if i = 0 then _ else none); rw [if_neg hi, if_neg hi]
    | 15, _ => rfl
    | 16, _ => rfl
    | 17, _ => rfl
    | 18, _ => rfl
    | 19, _ => rfl
    | 20, _ => rfl
    | 21, _ => rfl
    | 22, _ => rfl
    | 23, _ => rfl
    | 24, _ => rfl
    | 25, _ => rfl
    | 26, _ => rfl
    | 27, _ => rfl
    | 28, _ => rfl
    | k + 29, _ => rfl
set_option maxHeartbeats 1000000 in
theorem w_mday {G : Gx} {S T : Sd} {th : Int32} {o : Int64} {ex : Nat → Bool} {ad : Nat → Nat → Nat} {M : Mp} (h : WA G S T th o ex ad M) (v : Int32) : WA G S (u2 T.1 0 0 v, T.2) th o ex ad (va_up M (ad 14 0) (some (.inr (6, [.int th, .int v, .ref (ad 15 0), .ref (ad 16 0), .ref (ad 17 0), .ref (ad 18 0), .int (T.1 5 0), .ref (ad 19 0), .ref (ad 20 0), .ref (ad 21 0), .ref (ad 22 0), .ref (ad 23 0), .ref (ad 24 0), .ref (ad 25 0), .ref (ad 26 0), .ref (ad 27 0)])))) := by
  refine h.up 14 0 (e0 := _) rfl (fun k i => ?_)
  by_cases hk : k = 14 ∧ i = 0
  · obtain ⟨rfl, rfl⟩ := hk
    rw [if_pos ⟨rfl, rfl⟩]
    rfl
  · rw [if_neg hk]
    match k, hk with
    | 0, _ => rfl
    | 1, _ => rfl
    | 2, _ => rfl
    | 3, _ => rfl
    | 4, _ => rfl
    | 5, _ => rfl
    | 6, _ => rfl
    | 7, _ => rfl
    | 8, _ => rfl
    | 9, _ => rfl
    | 10, _ => rfl
    | 11, _ => rfl
    | 12, _ => rfl
    | 13, _ => rfl
    | 14, hk => have hi : ¬ i = 0 := fun z => hk ⟨rfl, z⟩; show (if i = 0 then _ else none) = (if i = 0 then _ else none); rw [if_neg hi, if_neg hi]
    | 15, _ => rfl
    | 16, _ => rfl
    | 17, _ => rfl
    | 18, _ => rfl
    | 19, _ => rfl
    | 20, _ => rfl
    | 21, _ => rfl
    | 22, _ => rfl
    | 23, _ => rfl
    | 24, _ => rfl
    | 25, _ => rfl
    | 26, _ => rfl
    | 27, _ => rfl
    | 28, _ => rfl
    | k + 29, _ => rfl
set_option maxHeartbeats 1000000 in
theorem w_mnd {G : Gx} {S T : Sd} {th : Int32} {o : Int64} {ex : Nat → Bool} {ad : Nat → Nat → Nat} {M : Mp} (h : WA G S T th o ex ad M) (v : Int32) : WA G S (u2 T.1 5 0 v, T.2) th o ex ad (va_up M (ad 14 0) (some (.inr (6, [.int th, .int (T.1 0 0), .ref (ad 15 0), .ref (ad 16 0), .ref (ad 17 0), .ref (ad 18 0), .int v, .ref (ad 19 0), .ref (ad 20 0), .ref (ad 21 0), .ref (ad 22 0), .ref (ad 23 0), .ref (ad 24 0), .ref (ad 25 0), .ref (ad 26 0), .ref (ad 27 0)])))) := by
  refine h.up 14 0 (e0 := _) rfl (fun k i => ?_)
  by_cases hk : k = 14 ∧ i = 0
  · obtain ⟨rfl, rfl⟩ := hk
    rw [if_pos ⟨rfl, rfl⟩]
    rfl
  · rw [if_neg hk]
    match k, hk with
    | 0, _ => rfl
    | 1, _ => rfl
    | 2, _ => rfl
    | 3, _ => rfl
    | 4, _ => rfl
    | 5, _ => rfl
    | 6, _ => rfl
    | 7, _ => rfl
    | 8, _ => rfl
    | 9, _ => rfl
    | 10, _ => rfl
    | 11, _ => rfl
    | 12, _ => rfl
    | 13, _ => rfl
    | 14, hk => have hi : ¬ i = 0 := fun z => hk ⟨rfl, z⟩; show (if i = 0 then _ else none) = (if i = 0 then _ else none); rw [if_neg hi, if_neg hi]
    | 15, _ => rfl
    | 16, _ => rfl
    | 17, _ => rfl
    | 18, _ => rfl
    | 19, _ => rfl
    | 20, _ => rfl
    | 21, _ => rfl
    | 22, _ => rfl
    | 23, _ => rfl
    | 24, _ => rfl
    | 25, _ => rfl
    | 26, _ => rfl
    | 27, _ => rfl
    | 28, _ => rfl
    | k + 29, _ => rfl
set_option maxHeartbeats 1000000 in
theorem w_mspot {G : Gx} {S T : Sd} {th : Int32} {o : Int64} {ex : Nat → Bool} {ad : Nat → Nat → Nat} {M : Mp} (h : WA G S T th o ex ad M) (d : Nat) (v : Int32) : WA G S (u2 T.1 1 d v, T.2) th o ex ad (va_up M (ad 15 0) (some (.inl (G.2.1 0, 4, .inl (upd (T.1 1) d v))))) := by
  refine h.up 15 0 (e0 := _) rfl (fun k i => ?_)
  by_cases hk : k = 15 ∧ i = 0
  · obtain ⟨rfl, rfl⟩ := hk
    rw [if_pos ⟨rfl, rfl⟩]
    rfl
  · rw [if_neg hk]
    match k, hk with
    | 0, _ => rfl
    | 1, _ => rfl
    | 2, _ => rfl
    | 3, _ => rfl
    | 4, _ => rfl
    | 5, _ => rfl
    | 6, _ => rfl
    | 7, _ => rfl
    | 8, _ => rfl
    | 9, _ => rfl
    | 10, _ => rfl
    | 11, _ => rfl
    | 12, _ => rfl
    | 13, _ => rfl
    | 14, _ => rfl
    | 15, hk => have hi : ¬ i = 0 := fun z => hk ⟨rfl, z⟩; show (if i = 0 then _ else none) = (if i = 0 then _ else none); rw [if_neg hi, if_neg hi]
    | 16, _ => rfl
    | 17, _ => rfl
    | 18, _ => rfl
    | 19, _ => rfl
    | 20, _ => rfl
    | 21, _ => rfl
    | 22, _ => rfl
    | 23, _ => rfl
    | 24, _ => rfl
    | 25, _ => rfl
    | 26, _ => rfl
    | 27, _ => rfl
    | 28, _ => rfl
    | k + 29, _ => rfl
set_option maxHeartbeats 1000000 in
theorem w_mpts {G : Gx} {S T : Sd} {th : Int32} {o : Int64} {ex : Nat → Bool} {ad : Nat → Nat → Nat} {M : Mp} (h : WA G S T th o ex ad M) (d : Nat) (v : Int32) : WA G S (u2 T.1 2 d v, T.2) th o ex ad (va_up M (ad 16 0) (some (.inl (G.2.1 0, 4, .inl (upd (T.1 2) d v))))) := by
  refine h.up 16 0 (e0 := _) rfl (fun k i => ?_)
  by_cases hk : k = 16 ∧ i = 0
  · obtain ⟨rfl, rfl⟩ := hk
    rw [if_pos ⟨rfl, rfl⟩]
    rfl
  · rw [if_neg hk]
    match k, hk with
    | 0, _ => rfl
    | 1, _ => rfl
    | 2, _ => rfl
    | 3, _ => rfl
    | 4, _ => rfl
    | 5, _ => rfl
    | 6, _ => rfl
    | 7, _ => rfl
    | 8, _ => rfl
    | 9, _ => rfl
    | 10, _ => rfl
    | 11, _ => rfl
    | 12, _ => rfl
    | 13, _ => rfl
    | 14, _ => rfl
    | 15, _ => rfl
    | 16, hk => have hi : ¬ i = 0 := fun z => hk ⟨rfl, z⟩; show (if i = 0 then _ else none) = (if i = 0 then _ else none); rw [if_neg hi, if_neg hi]
    | 17, _ => rfl
    | 18, _ => rfl
    | 19, _ => rfl
    | 20, _ => rfl
    | 21, _ => rfl
    | 22, _ => rfl
    | 23, _ => rfl
    | 24, _ => rfl
    | 25, _ => rfl
    | 26, _ => rfl
    | 27, _ => rfl
    | 28, _ => rfl
    | k + 29, _ => rfl
set_option maxHeartbeats 1000000 in
theorem w_mhol {G : Gx} {S T : Sd} {th : Int32} {o : Int64} {ex : Nat → Bool} {ad : Nat → Nat → Nat} {M : Mp} (h : WA G S T th o ex ad M) (d : Nat) (v : Int32) : WA G S (u2 T.1 4 d v, T.2) th o ex ad (va_up M (ad 18 0) (some (.inl (G.2.1 2, 1001, .inl (upd (T.1 4) d v))))) := by
  refine h.up 18 0 (e0 := _) rfl (fun k i => ?_)
  by_cases hk : k = 18 ∧ i = 0
  · obtain ⟨rfl, rfl⟩ := hk
    rw [if_pos ⟨rfl, rfl⟩]
    rfl
  · rw [if_neg hk]
    match k, hk with
    | 0, _ => rfl
    | 1, _ => rfl
    | 2, _ => rfl
    | 3, _ => rfl
    | 4, _ => rfl
    | 5, _ => rfl
    | 6, _ => rfl
    | 7, _ => rfl
    | 8, _ => rfl
    | 9, _ => rfl
    | 10, _ => rfl
    | 11, _ => rfl
    | 12, _ => rfl
    | 13, _ => rfl
    | 14, _ => rfl
    | 15, _ => rfl
    | 16, _ => rfl
    | 17, _ => rfl
    | 18, hk => have hi : ¬ i = 0 := fun z => hk ⟨rfl, z⟩; show (if i = 0 then _ else none) = (if i = 0 then _ else none); rw [if_neg hi, if_neg hi]
    | 19, _ => rfl
    | 20, _ => rfl
    | 21, _ => rfl
    | 22, _ => rfl
    | 23, _ => rfl
    | 24, _ => rfl
    | 25, _ => rfl
    | 26, _ => rfl
    | 27, _ => rfl
    | 28, _ => rfl
    | k + 29, _ => rfl
set_option maxHeartbeats 1000000 in
theorem w_mcus {G : Gx} {S T : Sd} {th : Int32} {o : Int64} {ex : Nat → Bool} {ad : Nat → Nat → Nat} {M : Mp} (h : WA G S T th o ex ad M) (d : Nat) (v : Int32) : WA G S (u2 T.1 6 d v, T.2) th o ex ad (va_up M (ad 19 0) (some (.inl (G.2.1 0, 20, .inl (upd (T.1 6) d v))))) := by
  refine h.up 19 0 (e0 := _) rfl (fun k i => ?_)
  by_cases hk : k = 19 ∧ i = 0
  · obtain ⟨rfl, rfl⟩ := hk
    rw [if_pos ⟨rfl, rfl⟩]
    rfl
  · rw [if_neg hk]
    match k, hk with
    | 0, _ => rfl
    | 1, _ => rfl
    | 2, _ => rfl
    | 3, _ => rfl
    | 4, _ => rfl
    | 5, _ => rfl
    | 6, _ => rfl
    | 7, _ => rfl
    | 8, _ => rfl
    | 9, _ => rfl
    | 10, _ => rfl
    | 11, _ => rfl
    | 12, _ => rfl
    | 13, _ => rfl
    | 14, _ => rfl
    | 15, _ => rfl
    | 16, _ => rfl
    | 17, _ => rfl
    | 18, _ => rfl
    | 19, hk => have hi : ¬ i = 0 := fun z => hk ⟨rfl, z⟩; show (if i = 0 then _ else none) = (if i = 0 then _ else none); rw [if_neg hi, if_neg hi]
    | 20, _ => rfl
    | 21, _ => rfl
    | 22, _ => rfl
    | 23, _ => rfl
    | 24, _ => rfl
    | 25, _ => rfl
    | 26, _ => rfl
    | 27, _ => rfl
    | 28, _ => rfl
    | k + 29, _ => rfl
set_option maxHeartbeats 1000000 in
theorem w_mcuy {G : Gx} {S T : Sd} {th : Int32} {o : Int64} {ex : Nat → Bool} {ad : Nat → Nat → Nat} {M : Mp} (h : WA G S T th o ex ad M) (d : Nat) (v : Int32) : WA G S (u2 T.1 7 d v, T.2) th o ex ad (va_up M (ad 20 0) (some (.inl (G.2.1 0, 20, .inl (upd (T.1 7) d v))))) := by
  refine h.up 20 0 (e0 := _) rfl (fun k i => ?_)
  by_cases hk : k = 20 ∧ i = 0
  · obtain ⟨rfl, rfl⟩ := hk
    rw [if_pos ⟨rfl, rfl⟩]
    rfl
  · rw [if_neg hk]
    match k, hk with
    | 0, _ => rfl
    | 1, _ => rfl
    | 2, _ => rfl
    | 3, _ => rfl
    | 4, _ => rfl
    | 5, _ => rfl
    | 6, _ => rfl
    | 7, _ => rfl
    | 8, _ => rfl
    | 9, _ => rfl
    | 10, _ => rfl
    | 11, _ => rfl
    | 12, _ => rfl
    | 13, _ => rfl
    | 14, _ => rfl
    | 15, _ => rfl
    | 16, _ => rfl
    | 17, _ => rfl
    | 18, _ => rfl
    | 19, _ => rfl
    | 20, hk => have hi : ¬ i = 0 := fun z => hk ⟨rfl, z⟩; show (if i = 0 then _ else none) = (if i = 0 then _ else none); rw [if_neg hi, if_neg hi]
    | 21, _ => rfl
    | 22, _ => rfl
    | 23, _ => rfl
    | 24, _ => rfl
    | 25, _ => rfl
    | 26, _ => rfl
    | 27, _ => rfl
    | 28, _ => rfl
    | k + 29, _ => rfl
set_option maxHeartbeats 1000000 in
theorem w_mbuys {G : Gx} {S T : Sd} {th : Int32} {o : Int64} {ex : Nat → Bool} {ad : Nat → Nat → Nat} {M : Mp} (h : WA G S T th o ex ad M) (d : Nat) (v : Int32) : WA G S (u2 T.1 8 d v, T.2) th o ex ad (va_up M (ad 21 0) (some (.inl (G.2.1 2, 20, .inl (upd (T.1 8) d v))))) := by
  refine h.up 21 0 (e0 := _) rfl (fun k i => ?_)
  by_cases hk : k = 21 ∧ i = 0
  · obtain ⟨rfl, rfl⟩ := hk
    rw [if_pos ⟨rfl, rfl⟩]
    rfl
  · rw [if_neg hk]
    match k, hk with
    | 0, _ => rfl
    | 1, _ => rfl
    | 2, _ => rfl
    | 3, _ => rfl
    | 4, _ => rfl
    | 5, _ => rfl
    | 6, _ => rfl
    | 7, _ => rfl
    | 8, _ => rfl
    | 9, _ => rfl
    | 10, _ => rfl
    | 11, _ => rfl
    | 12, _ => rfl
    | 13, _ => rfl
    | 14, _ => rfl
    | 15, _ => rfl
    | 16, _ => rfl
    | 17, _ => rfl
    | 18, _ => rfl
    | 19, _ => rfl
    | 20, _ => rfl
    | 21, hk => have hi : ¬ i = 0 := fun z => hk ⟨rfl, z⟩; show (if i = 0 then _ else none) = (if i = 0 then _ else none); rw [if_neg hi, if_neg hi]
    | 22, _ => rfl
    | 23, _ => rfl
    | 24, _ => rfl
    | 25, _ => rfl
    | 26, _ => rfl
    | 27, _ => rfl
    | 28, _ => rfl
    | k + 29, _ => rfl
set_option maxHeartbeats 1000000 in
theorem w_mleft {G : Gx} {S T : Sd} {th : Int32} {o : Int64} {ex : Nat → Bool} {ad : Nat → Nat → Nat} {M : Mp} (h : WA G S T th o ex ad M) (d : Nat) (v : Int32) : WA G S (u2 T.1 9 d v, T.2) th o ex ad (va_up M (ad 22 0) (some (.inl (G.2.1 0, 20, .inl (upd (T.1 9) d v))))) := by
  refine h.up 22 0 (e0 := _) rfl (fun k i => ?_)
  by_cases hk : k = 22 ∧ i = 0
  · obtain ⟨rfl, rfl⟩ := hk
    rw [if_pos ⟨rfl, rfl⟩]
    rfl
  · rw [if_neg hk]
    match k, hk with
    | 0, _ => rfl
    | 1, _ => rfl
    | 2, _ => rfl
    | 3, _ => rfl
    | 4, _ => rfl
    | 5, _ => rfl
    | 6, _ => rfl
    | 7, _ => rfl
    | 8, _ => rfl
    | 9, _ => rfl
    | 10, _ => rfl
    | 11, _ => rfl
    | 12, _ => rfl
    | 13, _ => rfl
    | 14, _ => rfl
    | 15, _ => rfl
    | 16, _ => rfl
    | 17, _ => rfl
    | 18, _ => rfl
    | 19, _ => rfl
    | 20, _ => rfl
    | 21, _ => rfl
    | 22, hk => have hi : ¬ i = 0 := fun z => hk ⟨rfl, z⟩; show (if i = 0 then _ else none) = (if i = 0 then _ else none); rw [if_neg hi, if_neg hi]
    | 23, _ => rfl
    | 24, _ => rfl
    | 25, _ => rfl
    | 26, _ => rfl
    | 27, _ => rfl
    | 28, _ => rfl
    | k + 29, _ => rfl
set_option maxHeartbeats 1000000 in
theorem w_mfirst {G : Gx} {S T : Sd} {th : Int32} {o : Int64} {ex : Nat → Bool} {ad : Nat → Nat → Nat} {M : Mp} (h : WA G S T th o ex ad M) (d : Nat) (v : Int32) : WA G S (u2 T.1 11 d v, T.2) th o ex ad (va_up M (ad 23 0) (some (.inl (G.2.1 0, 20, .inl (upd (T.1 11) d v))))) := by
  refine h.up 23 0 (e0 := _) rfl (fun k i => ?_)
  by_cases hk : k = 23 ∧ i = 0
  · obtain ⟨rfl, rfl⟩ := hk
    rw [if_pos ⟨rfl, rfl⟩]
    rfl
  · rw [if_neg hk]
    match k, hk with
    | 0, _ => rfl
    | 1, _ => rfl
    | 2, _ => rfl
    | 3, _ => rfl
    | 4, _ => rfl
    | 5, _ => rfl
    | 6, _ => rfl
    | 7, _ => rfl
    | 8, _ => rfl
    | 9, _ => rfl
    | 10, _ => rfl
    | 11, _ => rfl
    | 12, _ => rfl
    | 13, _ => rfl
    | 14, _ => rfl
    | 15, _ => rfl
    | 16, _ => rfl
    | 17, _ => rfl
    | 18, _ => rfl
    | 19, _ => rfl
    | 20, _ => rfl
    | 21, _ => rfl
    | 22, _ => rfl
    | 23, hk => have hi : ¬ i = 0 := fun z => hk ⟨rfl, z⟩; show (if i = 0 then _ else none) = (if i = 0 then _ else none); rw [if_neg hi, if_neg hi]
    | 24, _ => rfl
    | 25, _ => rfl
    | 26, _ => rfl
    | 27, _ => rfl
    | 28, _ => rfl
    | k + 29, _ => rfl
set_option maxHeartbeats 1000000 in
theorem w_mlast {G : Gx} {S T : Sd} {th : Int32} {o : Int64} {ex : Nat → Bool} {ad : Nat → Nat → Nat} {M : Mp} (h : WA G S T th o ex ad M) (d : Nat) (v : Int32) : WA G S (u2 T.1 12 d v, T.2) th o ex ad (va_up M (ad 24 0) (some (.inl (G.2.1 0, 20, .inl (upd (T.1 12) d v))))) := by
  refine h.up 24 0 (e0 := _) rfl (fun k i => ?_)
  by_cases hk : k = 24 ∧ i = 0
  · obtain ⟨rfl, rfl⟩ := hk
    rw [if_pos ⟨rfl, rfl⟩]
    rfl
  · rw [if_neg hk]
    match k, hk with
    | 0, _ => rfl
    | 1, _ => rfl
    | 2, _ => rfl
    | 3, _ => rfl
    | 4, _ => rfl
    | 5, _ => rfl
    | 6, _ => rfl
    | 7, _ => rfl
    | 8, _ => rfl
    | 9, _ => rfl
    | 10, _ => rfl
    | 11, _ => rfl
    | 12, _ => rfl
    | 13, _ => rfl
    | 14, _ => rfl
    | 15, _ => rfl
    | 16, _ => rfl
    | 17, _ => rfl
    | 18, _ => rfl
    | 19, _ => rfl
    | 20, _ => rfl
    | 21, _ => rfl
    | 22, _ => rfl
    | 23, _ => rfl
    | 24, hk => have hi : ¬ i = 0 := fun z => hk ⟨rfl, z⟩; show (if i = 0 then _ else none) = (if i = 0 then _ else none); rw [if_neg hi, if_neg hi]
    | 25, _ => rfl
    | 26, _ => rfl
    | 27, _ => rfl
    | 28, _ => rfl
    | k + 29, _ => rfl
set_option maxHeartbeats 1000000 in
theorem w_mrate {G : Gx} {S T : Sd} {th : Int32} {o : Int64} {ex : Nat → Bool} {ad : Nat → Nat → Nat} {M : Mp} (h : WA G S T th o ex ad M) (d : Nat) (v : Int32) : WA G S (u2 T.1 10 d v, T.2) th o ex ad (va_up M (ad 25 0) (some (.inl (G.2.1 0, 20, .inl (upd (T.1 10) d v))))) := by
  refine h.up 25 0 (e0 := _) rfl (fun k i => ?_)
  by_cases hk : k = 25 ∧ i = 0
  · obtain ⟨rfl, rfl⟩ := hk
    rw [if_pos ⟨rfl, rfl⟩]
    rfl
  · rw [if_neg hk]
    match k, hk with
    | 0, _ => rfl
    | 1, _ => rfl
    | 2, _ => rfl
    | 3, _ => rfl
    | 4, _ => rfl
    | 5, _ => rfl
    | 6, _ => rfl
    | 7, _ => rfl
    | 8, _ => rfl
    | 9, _ => rfl
    | 10, _ => rfl
    | 11, _ => rfl
    | 12, _ => rfl
    | 13, _ => rfl
    | 14, _ => rfl
    | 15, _ => rfl
    | 16, _ => rfl
    | 17, _ => rfl
    | 18, _ => rfl
    | 19, _ => rfl
    | 20, _ => rfl
    | 21, _ => rfl
    | 22, _ => rfl
    | 23, _ => rfl
    | 24, _ => rfl
    | 25, hk => have hi : ¬ i = 0 := fun z => hk ⟨rfl, z⟩; show (if i = 0 then _ else none) = (if i = 0 then _ else none); rw [if_neg hi, if_neg hi]
    | 26, _ => rfl
    | 27, _ => rfl
    | 28, _ => rfl
    | k + 29, _ => rfl
set_option maxHeartbeats 1000000 in
theorem w_mdue {G : Gx} {S T : Sd} {th : Int32} {o : Int64} {ex : Nat → Bool} {ad : Nat → Nat → Nat} {M : Mp} (h : WA G S T th o ex ad M) (d : Nat) (v : Int64) : WA G S (T.1, u2 T.2 0 d v) th o ex ad (va_up M (ad 26 0) (some (.inl (G.2.1 1, 25750, .inr (.inl (vp_updL (T.2 0) d v)))))) := by
  refine h.up 26 0 (e0 := _) rfl (fun k i => ?_)
  by_cases hk : k = 26 ∧ i = 0
  · obtain ⟨rfl, rfl⟩ := hk
    rw [if_pos ⟨rfl, rfl⟩]
    rfl
  · rw [if_neg hk]
    match k, hk with
    | 0, _ => rfl
    | 1, _ => rfl
    | 2, _ => rfl
    | 3, _ => rfl
    | 4, _ => rfl
    | 5, _ => rfl
    | 6, _ => rfl
    | 7, _ => rfl
    | 8, _ => rfl
    | 9, _ => rfl
    | 10, _ => rfl
    | 11, _ => rfl
    | 12, _ => rfl
    | 13, _ => rfl
    | 14, _ => rfl
    | 15, _ => rfl
    | 16, _ => rfl
    | 17, _ => rfl
    | 18, _ => rfl
    | 19, _ => rfl
    | 20, _ => rfl
    | 21, _ => rfl
    | 22, _ => rfl
    | 23, _ => rfl
    | 24, _ => rfl
    | 25, _ => rfl
    | 26, hk => have hi : ¬ i = 0 := fun z => hk ⟨rfl, z⟩; show (if i = 0 then _ else none) = (if i = 0 then _ else none); rw [if_neg hi, if_neg hi]
    | 27, _ => rfl
    | 28, _ => rfl
    | k + 29, _ => rfl
set_option maxHeartbeats 1000000 in
theorem w_mbal {G : Gx} {S T : Sd} {th : Int32} {o : Int64} {ex : Nat → Bool} {ad : Nat → Nat → Nat} {M : Mp} (h : WA G S T th o ex ad M) (d : Nat) (v : Int64) : WA G S (T.1, u2 T.2 1 d v) th o ex ad (va_up M (ad 27 0) (some (.inl (G.2.1 1, 25, .inr (.inl (vp_updL (T.2 1) d v)))))) := by
  refine h.up 27 0 (e0 := _) rfl (fun k i => ?_)
  by_cases hk : k = 27 ∧ i = 0
  · obtain ⟨rfl, rfl⟩ := hk
    rw [if_pos ⟨rfl, rfl⟩]
    rfl
  · rw [if_neg hk]
    match k, hk with
    | 0, _ => rfl
    | 1, _ => rfl
    | 2, _ => rfl
    | 3, _ => rfl
    | 4, _ => rfl
    | 5, _ => rfl
    | 6, _ => rfl
    | 7, _ => rfl
    | 8, _ => rfl
    | 9, _ => rfl
    | 10, _ => rfl
    | 11, _ => rfl
    | 12, _ => rfl
    | 13, _ => rfl
    | 14, _ => rfl
    | 15, _ => rfl
    | 16, _ => rfl
    | 17, _ => rfl
    | 18, _ => rfl
    | 19, _ => rfl
    | 20, _ => rfl
    | 21, _ => rfl
    | 22, _ => rfl
    | 23, _ => rfl
    | 24, _ => rfl
    | 25, _ => rfl
    | 26, _ => rfl
    | 27, hk => have hi : ¬ i = 0 := fun z => hk ⟨rfl, z⟩; show (if i = 0 then _ else none) = (if i = 0 then _ else none); rw [if_neg hi, if_neg hi]
    | 28, _ => rfl
    | k + 29, _ => rfl
set_option maxHeartbeats 1000000 in
theorem w_mlim {G : Gx} {S T : Sd} {th : Int32} {o : Int64} {ex : Nat → Bool} {ad : Nat → Nat → Nat} {M : Mp} (h : WA G S T th o ex ad M) (d : Nat) (v : Int64) : WA G S (T.1, u2 T.2 2 d v) th o ex ad (va_up M (ad 17 0) (some (.inl (G.2.1 1, 5, .inr (.inl (vp_updL (T.2 2) d v)))))) := by
  refine h.up 17 0 (e0 := _) rfl (fun k i => ?_)
  by_cases hk : k = 17 ∧ i = 0
  · obtain ⟨rfl, rfl⟩ := hk
    rw [if_pos ⟨rfl, rfl⟩]
    rfl
  · rw [if_neg hk]
    match k, hk with
    | 0, _ => rfl
    | 1, _ => rfl
    | 2, _ => rfl
    | 3, _ => rfl
    | 4, _ => rfl
    | 5, _ => rfl
    | 6, _ => rfl
    | 7, _ => rfl
    | 8, _ => rfl
    | 9, _ => rfl
    | 10, _ => rfl
    | 11, _ => rfl
    | 12, _ => rfl
    | 13, _ => rfl
    | 14, _ => rfl
    | 15, _ => rfl
    | 16, _ => rfl
    | 17, hk => have hi : ¬ i = 0 := fun z => hk ⟨rfl, z⟩; show (if i = 0 then _ else none) = (if i = 0 then _ else none); rw [if_neg hi, if_neg hi]
    | 18, _ => rfl
    | 19, _ => rfl
    | 20, _ => rfl
    | 21, _ => rfl
    | 22, _ => rfl
    | 23, _ => rfl
    | 24, _ => rfl
    | 25, _ => rfl
    | 26, _ => rfl
    | 27, _ => rfl
    | 28, _ => rfl
    | k + 29, _ => rfl
end
