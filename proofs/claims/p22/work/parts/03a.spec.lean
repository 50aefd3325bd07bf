/-! spec, part 1: numbers -/
theorem Cx.ao {G : Gx} {s : State} (h : Cx G s) {C : String} (i : Nat) (hc : [RX0, RX2, RX3, RX4][i]? = some C) : va_AO C s := h.2.2.2.2.2.2.1 C (List.mem_of_getElem? hc)
theorem m_newq {p : Program} {l : Launch} {e : Env} {R : Room} {s : State} {m : MethodId} {args : Array Value} {below : List Frame} {meth : Method} {c : Code} {H : Heap} {locs : List Loc} {cells slots : Nat} {Q : State → Prop} {cc : ByteArray} {pc : Nat} {ls : Array Slot} {rest : List Value} {G : Gx} {M : Mp} {H0 : Heap} (hexec : p.tables.exec = Jvm.exec) (hb : c.code = cc) {own C : String} {index : Nat} (hown : s.vm.findClass own = some m.cls) (hclink : (Cond.classLink own index C).before args s = true) (hover : va_AO C s) (t0 : Nat) (hC : Cx G s) (ht : (tyG G)[t0]? = some (G.2.1 t0, .object C)) (hM : Hm G M H) (hS : va_S (AG G) H0 H locs) (h0 : G.2.2 ≤ H0.size)
    {n : Int32} {N' : Nat} (hn : ¬ n < 0) (hN : n.toNatClampNeg = N') (hbytes : N' * 4 ≤ 536870912) (hcells : cells + 1 ≤ R.cells) (hslots : slots + N' ≤ R.slots) (hdg : decode cc pc = .ok (.anewarray index, 3))
    (kk : ∀ (q : Nat) (H1 : Heap), M q = none → Hm G (va_up M q (some (.inl (G.2.1 t0, N', .inr (.inr (.inr (.inr (fun _ => none)))))))) H1 → va_S (AG G) H0 H1 locs →
      W p l e R s m args below meth c H1 locs (cells + 1) (slots + N') Q (F0 m (pc + 3) ls (.ref q :: rest))) : W p l e R s m args below meth c H locs cells slots Q (F0 m pc ls (.int n :: rest)) := by
  obtain ⟨ws, hP, hD, hk9⟩ := hM
  refine va_newq hexec hb hown hclink hover hC.k hP hD hS (fun q h => Nat.le_trans h0 h) hn hN hbytes hcells hslots hdg (fun q cA H1 hK1 hP1 hD1 hS1 => ?_)
  have h1 := (hC.k.2 t0 _ ht).2
  have h2 := (hK1.2 (tyG G).length (cA, .object C) (by simp)).2
  have h3 : cA = G.2.1 t0 := va_RA_eq h2 h1
  subst h3
  exact kk q H1 (Hm.push hk9 hP1 hD1).1 (Hm.push hk9 hP1 hD1).2 hS1
/-- 1 if i is an index below n -/
def ixb (i n : Int32) : Int32 := if 0 ≤ i ∧ i < n then 1 else 0
theorem ixb_t {i n : Int32} (h : ¬ ixb i n = 0) : 0 ≤ i ∧ i < n := by
  unfold ixb at h
  by_cases c : 0 ≤ i ∧ i < n
  · exact c
  · rw [if_neg c] at h; exact absurd rfl h
theorem ixb_f {i n : Int32} (h : ixb i n = 0) : ¬ (0 ≤ i ∧ i < n) := by
  intro c
  unfold ixb at h
  rw [if_pos c] at h
  exact absurd h (by decide)
theorem vin_of {i n : Int32} (k : Nat) (h : 0 ≤ i ∧ i < n) (hn : n.toInt = (k : Int)) : vp_in i k := by
  rw [vp_in_iff]
  have h1 := Int32.le_iff_toInt_le.mp h.1
  have h2 := Int32.lt_iff_toInt_lt.mp h.2
  rw [hn] at h2
  exact ⟨h1, h2⟩
theorem of_vin {i n : Int32} (k : Nat) (h : vp_in i k) (hn : n.toInt = (k : Int)) : 0 ≤ i ∧ i < n := by
  rw [vp_in_iff] at h
  exact ⟨Int32.le_iff_toInt_le.mpr h.1, Int32.lt_iff_toInt_lt.mpr (by rw [hn]; exact h.2)⟩
/-- at least 1 -/
def al1 (v : Int32) : Int32 := if v < 1 then 1 else v
theorem mx1 (v : Int32) : (if (1 : Int32) < v then v else 1) = al1 v := by
  unfold al1
  by_cases h : (1 : Int32) < v
  · rw [if_pos h, if_neg]
    intro h2
    have a := Int32.lt_iff_toInt_lt.mp h
    have b := Int32.lt_iff_toInt_lt.mp h2
    omega
  · rw [if_neg h]
    by_cases h2 : v < 1
    · rw [if_pos h2]
    · rw [if_neg h2]
      have a : ¬ (1 : Int32).toInt < v.toInt := fun z => h (Int32.lt_iff_toInt_lt.mpr z)
      have b : ¬ v.toInt < (1 : Int32).toInt := fun z => h2 (Int32.lt_iff_toInt_lt.mpr z)
      exact Int32.toInt_inj.mp (by omega)
/-- the home amount -/
def hom (amount rate : Int32) : Int64 := amount.toInt64 * rate.toInt64 / 10000
/-- the gain: of a buyer (bu not 0) or seller -/
def gn (bu lf ag mr : Int32) : Int64 := if bu = 0 then -(hom lf mr - hom lf ag) else hom lf mr - hom lf ag
/-- what a place of a row of longs gives to an index that may be anything -/
def rd (f : Nat → Int64) (i : Int32) (n : Int32) : Int64 := if 0 ≤ i ∧ i < n then f i.toNatClampNeg else 0
/-- is a day a business day, by the holidays f -/
def bus (f : Nat → Int32) (d : Int32) : Int32 := if d - d / 7 * 7 < 5 ∧ ¬ ((0 ≤ d ∧ d < 1001) ∧ ¬ f d.toNatClampNeg = 0) then 1 else 0
/-- the first business day from d on -/
def nbd (f : Nat → Int32) : Nat → Int32 → Int32
  | 0, d => d
  | n + 1, d => if d < 1001 ∧ bus f d = 0 then nbd f n (d + 1) else d
def tg (x : Int32) : Int32 := if x = 0 then 1 else 0
theorem up2 {M : Mp} {a : Nat} {x y : Option va_E} : va_up (va_up M a x) a y = va_up M a y := by
  funext b
  by_cases h : b = a <;> simp [va_up, h]
