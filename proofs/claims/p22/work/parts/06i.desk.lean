/-- a new deal -/
def nrt (S : Sd) (y z : Int32) : Int32 := al1 (S.1 1 y.toNatClampNeg + S.1 2 y.toNatClampNeg * z)
def gbV (S : Sd) (n y bu am fd zd rt : Int32) : Nat → Nat → Int32 := u2 (u2 (u2 (u2 (u2 (u2 (u2 S.1 6 (ndl S) n) 7 (ndl S) y) 8 (ndl S) bu) 9 (ndl S) am) 11 (ndl S) fd) 12 (ndl S) zd) 10 (ndl S) rt
def ndV (S : Sd) (n y bu am fd zd rt v : Int32) : Sd := (u2 (gbV S n y bu am fd zd rt) 5 0 v, S.2)
def ndS (S : Sd) (n y bu am f z : Int32) : Sd := ndV S n y bu am (S.1 0 0 + f) (S.1 0 0 + z) (nrt S y z) (S.1 5 0 + 1)
/-- the exposure with it -/
def exw (S : Sd) (n y bu am z : Int32) : Int64 := wl (la S n.toNatClampNeg 10 (ndl S) + lsx S y.toNatClampNeg bu am (nrt S y z) (S.1 0 0 + z) 10) (la S n.toNatClampNeg (-10) (ndl S) + lsx S y.toNatClampNeg bu am (nrt S y z) (S.1 0 0 + z) (-10))
theorem nd_succ {S : Sd} (hi : Iv S) (h : S.1 5 0 < 20) : (S.1 5 0 + 1).toNatClampNeg = ndl S + 1 := by
  have h1 := hi.2.1
  have h2 := Int32.lt_iff_toInt_lt.mp h
  have e : (20 : Int32).toInt = 20 := rfl
  have e1 := add1_toInt (x := S.1 5 0) h1.1 (by omega)
  unfold ndl
  rw [Int32.toNatClampNeg, Int32.toNatClampNeg, e1]
  omega
theorem gb_o {S : Sd} {n y bu am fd zd rt : Int32} {k j : Nat} (h : ¬ j = ndl S) : gbV S n y bu am fd zd rt k j = S.1 k j := by
  unfold gbV
  rw [u2_n (fun q => h q.2), u2_n (fun q => h q.2), u2_n (fun q => h q.2), u2_n (fun q => h q.2), u2_n (fun q => h q.2), u2_n (fun q => h q.2), u2_n (fun q => h q.2)]
theorem u2r {α : Type} {f : Nat → Nat → α} {a b x : Nat} {v : α} (h : ¬ x = a) : u2 f a b v x = f x := by
  funext y
  exact u2_n (fun z => h z.1)
theorem adr_o {ex : Nat → Option (Nat × Nat)} {ad : Nat → Nat → Nat} {k i : Nat} (h1 : ¬ k = 12) (h2 : ¬ k = 13) : adr ex ad k i = ad k i := by
  unfold adr
  split
  · exact absurd rfl h1
  · exact absurd rfl h2
  · rfl
theorem ctd_1 {G : Gx} {S T : Sd} {th : Int32} {o : Int64} {ex : Nat → Option (Nat × Nat)} {ad : Nat → Nat → Nat} {S9 : Sd} {ad9 : Nat → Nat → Nat} (k0 : S9.1 0 = S.1 0) (k1 : S9.1 1 = S.1 1) (k2 : S9.1 2 = S.1 2) (k3 : S9.1 3 = S.1 3) (k4 : S9.1 4 = S.1 4) (k5 : S9.2 = S.2) (ka : ∀ k, ¬ k = 11 → ad9 k = ad k) (i : Nat) : ct G.2.1 S9 T th o ex ad9 1 i = ct G.2.1 S T th o ex ad 1 i := by
  have kk : ∀ k, ¬ k = 11 → ∀ i, ad9 k i = ad k i := fun k hk i => by rw [ka k hk]
  have kc : crr ad9 = crr ad := by unfold crr; rw [ka 4 (by decide)]
  have ks : csr ad9 = csr ad := by unfold csr; rw [ka 6 (by decide)]
  show (if i = 0 then some (Sum.inr (1, [Value.ref (ad9 2 0), Value.int (S9.1 0 0)])) else none : Option va_E) = _; rw [kk 2 (by decide), k0]; rfl
theorem ctd_2 {G : Gx} {S T : Sd} {th : Int32} {o : Int64} {ex : Nat → Option (Nat × Nat)} {ad : Nat → Nat → Nat} {S9 : Sd} {ad9 : Nat → Nat → Nat} (k0 : S9.1 0 = S.1 0) (k1 : S9.1 1 = S.1 1) (k2 : S9.1 2 = S.1 2) (k3 : S9.1 3 = S.1 3) (k4 : S9.1 4 = S.1 4) (k5 : S9.2 = S.2) (ka : ∀ k, ¬ k = 11 → ad9 k = ad k) (i : Nat) : ct G.2.1 S9 T th o ex ad9 2 i = ct G.2.1 S T th o ex ad 2 i := by
  have kk : ∀ k, ¬ k = 11 → ∀ i, ad9 k i = ad k i := fun k hk i => by rw [ka k hk]
  have kc : crr ad9 = crr ad := by unfold crr; rw [ka 4 (by decide)]
  have ks : csr ad9 = csr ad := by unfold csr; rw [ka 6 (by decide)]
  show (if i = 0 then some (Sum.inl (G.2.1 2, 1001, Sum.inl (S9.1 4))) else none : Option va_E) = _; rw [k4]; rfl
theorem ctd_3 {G : Gx} {S T : Sd} {th : Int32} {o : Int64} {ex : Nat → Option (Nat × Nat)} {ad : Nat → Nat → Nat} {S9 : Sd} {ad9 : Nat → Nat → Nat} (k0 : S9.1 0 = S.1 0) (k1 : S9.1 1 = S.1 1) (k2 : S9.1 2 = S.1 2) (k3 : S9.1 3 = S.1 3) (k4 : S9.1 4 = S.1 4) (k5 : S9.2 = S.2) (ka : ∀ k, ¬ k = 11 → ad9 k = ad k) (i : Nat) : ct G.2.1 S9 T th o ex ad9 3 i = ct G.2.1 S T th o ex ad 3 i := by
  have kk : ∀ k, ¬ k = 11 → ∀ i, ad9 k i = ad k i := fun k hk i => by rw [ka k hk]
  have kc : crr ad9 = crr ad := by unfold crr; rw [ka 4 (by decide)]
  have ks : csr ad9 = csr ad := by unfold csr; rw [ka 6 (by decide)]
  show (if i = 0 then some (Sum.inl (G.2.1 3, 4, Sum.inr (Sum.inr (Sum.inr (Sum.inr (crr ad9)))))) else none : Option va_E) = _; rw [kc]; rfl
theorem ctd_4 {G : Gx} {S T : Sd} {th : Int32} {o : Int64} {ex : Nat → Option (Nat × Nat)} {ad : Nat → Nat → Nat} {S9 : Sd} {ad9 : Nat → Nat → Nat} (k0 : S9.1 0 = S.1 0) (k1 : S9.1 1 = S.1 1) (k2 : S9.1 2 = S.1 2) (k3 : S9.1 3 = S.1 3) (k4 : S9.1 4 = S.1 4) (k5 : S9.2 = S.2) (ka : ∀ k, ¬ k = 11 → ad9 k = ad k) (i : Nat) : ct G.2.1 S9 T th o ex ad9 4 i = ct G.2.1 S T th o ex ad 4 i := by
  have kk : ∀ k, ¬ k = 11 → ∀ i, ad9 k i = ad k i := fun k hk i => by rw [ka k hk]
  have kc : crr ad9 = crr ad := by unfold crr; rw [ka 4 (by decide)]
  have ks : csr ad9 = csr ad := by unfold csr; rw [ka 6 (by decide)]
  show (if i < 4 then some (Sum.inr (2, [Value.int (nI i), Value.int (S9.1 1 i), Value.int (S9.1 2 i)])) else none : Option va_E) = _; rw [k1, k2]; rfl
theorem ctd_5 {G : Gx} {S T : Sd} {th : Int32} {o : Int64} {ex : Nat → Option (Nat × Nat)} {ad : Nat → Nat → Nat} {S9 : Sd} {ad9 : Nat → Nat → Nat} (k0 : S9.1 0 = S.1 0) (k1 : S9.1 1 = S.1 1) (k2 : S9.1 2 = S.1 2) (k3 : S9.1 3 = S.1 3) (k4 : S9.1 4 = S.1 4) (k5 : S9.2 = S.2) (ka : ∀ k, ¬ k = 11 → ad9 k = ad k) (i : Nat) : ct G.2.1 S9 T th o ex ad9 5 i = ct G.2.1 S T th o ex ad 5 i := by
  have kk : ∀ k, ¬ k = 11 → ∀ i, ad9 k i = ad k i := fun k hk i => by rw [ka k hk]
  have kc : crr ad9 = crr ad := by unfold crr; rw [ka 4 (by decide)]
  have ks : csr ad9 = csr ad := by unfold csr; rw [ka 6 (by decide)]
  show (if i = 0 then some (Sum.inl (G.2.1 4, 5, Sum.inr (Sum.inr (Sum.inr (Sum.inr (csr ad9)))))) else none : Option va_E) = _; rw [ks]; rfl
theorem ctd_6 {G : Gx} {S T : Sd} {th : Int32} {o : Int64} {ex : Nat → Option (Nat × Nat)} {ad : Nat → Nat → Nat} {S9 : Sd} {ad9 : Nat → Nat → Nat} (k0 : S9.1 0 = S.1 0) (k1 : S9.1 1 = S.1 1) (k2 : S9.1 2 = S.1 2) (k3 : S9.1 3 = S.1 3) (k4 : S9.1 4 = S.1 4) (k5 : S9.2 = S.2) (ka : ∀ k, ¬ k = 11 → ad9 k = ad k) (i : Nat) : ct G.2.1 S9 T th o ex ad9 6 i = ct G.2.1 S T th o ex ad 6 i := by
  have kk : ∀ k, ¬ k = 11 → ∀ i, ad9 k i = ad k i := fun k hk i => by rw [ka k hk]
  have kc : crr ad9 = crr ad := by unfold crr; rw [ka 4 (by decide)]
  have ks : csr ad9 = csr ad := by unfold csr; rw [ka 6 (by decide)]
  show (if i < 5 then some (Sum.inr (3, [Value.int (S9.1 3 i), Value.ref (ad9 7 i), Value.ref (ad9 8 i)])) else none : Option va_E) = _; rw [k3, kk 7 (by decide), kk 8 (by decide)]; rfl
theorem ctd_7 {G : Gx} {S T : Sd} {th : Int32} {o : Int64} {ex : Nat → Option (Nat × Nat)} {ad : Nat → Nat → Nat} {S9 : Sd} {ad9 : Nat → Nat → Nat} (k0 : S9.1 0 = S.1 0) (k1 : S9.1 1 = S.1 1) (k2 : S9.1 2 = S.1 2) (k3 : S9.1 3 = S.1 3) (k4 : S9.1 4 = S.1 4) (k5 : S9.2 = S.2) (ka : ∀ k, ¬ k = 11 → ad9 k = ad k) (i : Nat) : ct G.2.1 S9 T th o ex ad9 7 i = ct G.2.1 S T th o ex ad 7 i := by
  have kk : ∀ k, ¬ k = 11 → ∀ i, ad9 k i = ad k i := fun k hk i => by rw [ka k hk]
  have kc : crr ad9 = crr ad := by unfold crr; rw [ka 4 (by decide)]
  have ks : csr ad9 = csr ad := by unfold csr; rw [ka 6 (by decide)]
  show (if i < 5 then some (Sum.inl (G.2.1 5, 1002, Sum.inr (Sum.inr (Sum.inr (Sum.inr (ntr ex ad i)))))) else none : Option va_E) = (if i < 5 then some (Sum.inl (G.2.1 5, 1002, Sum.inr (Sum.inr (Sum.inr (Sum.inr (ntr ex ad i)))))) else none : Option va_E); rfl
theorem ctd_8 {G : Gx} {S T : Sd} {th : Int32} {o : Int64} {ex : Nat → Option (Nat × Nat)} {ad : Nat → Nat → Nat} {S9 : Sd} {ad9 : Nat → Nat → Nat} (k0 : S9.1 0 = S.1 0) (k1 : S9.1 1 = S.1 1) (k2 : S9.1 2 = S.1 2) (k3 : S9.1 3 = S.1 3) (k4 : S9.1 4 = S.1 4) (k5 : S9.2 = S.2) (ka : ∀ k, ¬ k = 11 → ad9 k = ad k) (i : Nat) : ct G.2.1 S9 T th o ex ad9 8 i = ct G.2.1 S T th o ex ad 8 i := by
  have kk : ∀ k, ¬ k = 11 → ∀ i, ad9 k i = ad k i := fun k hk i => by rw [ka k hk]
  have kc : crr ad9 = crr ad := by unfold crr; rw [ka 4 (by decide)]
  have ks : csr ad9 = csr ad := by unfold csr; rw [ka 6 (by decide)]
  show (if i < 5 then some (Sum.inr (0, [Value.ref (ad9 9 i)])) else none : Option va_E) = _; rw [kk 9 (by decide)]; rfl
theorem ctd_9 {G : Gx} {S T : Sd} {th : Int32} {o : Int64} {ex : Nat → Option (Nat × Nat)} {ad : Nat → Nat → Nat} {S9 : Sd} {ad9 : Nat → Nat → Nat} (k0 : S9.1 0 = S.1 0) (k1 : S9.1 1 = S.1 1) (k2 : S9.1 2 = S.1 2) (k3 : S9.1 3 = S.1 3) (k4 : S9.1 4 = S.1 4) (k5 : S9.2 = S.2) (ka : ∀ k, ¬ k = 11 → ad9 k = ad k) (i : Nat) : ct G.2.1 S9 T th o ex ad9 9 i = ct G.2.1 S T th o ex ad 9 i := by
  have kk : ∀ k, ¬ k = 11 → ∀ i, ad9 k i = ad k i := fun k hk i => by rw [ka k hk]
  have kc : crr ad9 = crr ad := by unfold crr; rw [ka 4 (by decide)]
  have ks : csr ad9 = csr ad := by unfold csr; rw [ka 6 (by decide)]
  show (if i < 5 then some (Sum.inl (G.2.1 1, 5, Sum.inr (Sum.inl (rw5 (S9.2 1) i)))) else none : Option va_E) = _; rw [k5]; rfl
theorem ctd_12 {G : Gx} {S T : Sd} {th : Int32} {o : Int64} {ex : Nat → Option (Nat × Nat)} {ad : Nat → Nat → Nat} {S9 : Sd} {ad9 : Nat → Nat → Nat} (k0 : S9.1 0 = S.1 0) (k1 : S9.1 1 = S.1 1) (k2 : S9.1 2 = S.1 2) (k3 : S9.1 3 = S.1 3) (k4 : S9.1 4 = S.1 4) (k5 : S9.2 = S.2) (ka : ∀ k, ¬ k = 11 → ad9 k = ad k) (i : Nat) : ct G.2.1 S9 T th o ex ad9 12 i = ct G.2.1 S T th o ex ad 12 i := by
  have kk : ∀ k, ¬ k = 11 → ∀ i, ad9 k i = ad k i := fun k hk i => by rw [ka k hk]
  have kc : crr ad9 = crr ad := by unfold crr; rw [ka 4 (by decide)]
  have ks : csr ad9 = csr ad := by unfold csr; rw [ka 6 (by decide)]
  show ((ex i).map (fun q => (Sum.inr (0, [Value.ref q.2]) : va_E))) = ((ex i).map (fun q => (Sum.inr (0, [Value.ref q.2]) : va_E))); rfl
theorem ctd_13 {G : Gx} {S T : Sd} {th : Int32} {o : Int64} {ex : Nat → Option (Nat × Nat)} {ad : Nat → Nat → Nat} {S9 : Sd} {ad9 : Nat → Nat → Nat} (k0 : S9.1 0 = S.1 0) (k1 : S9.1 1 = S.1 1) (k2 : S9.1 2 = S.1 2) (k3 : S9.1 3 = S.1 3) (k4 : S9.1 4 = S.1 4) (k5 : S9.2 = S.2) (ka : ∀ k, ¬ k = 11 → ad9 k = ad k) (i : Nat) : ct G.2.1 S9 T th o ex ad9 13 i = ct G.2.1 S T th o ex ad 13 i := by
  have kk : ∀ k, ¬ k = 11 → ∀ i, ad9 k i = ad k i := fun k hk i => by rw [ka k hk]
  have kc : crr ad9 = crr ad := by unfold crr; rw [ka 4 (by decide)]
  have ks : csr ad9 = csr ad := by unfold csr; rw [ka 6 (by decide)]
  show (ex i).map (fun _ => (Sum.inl (G.2.1 1, 5, Sum.inr (Sum.inl (rw5 (S9.2 0) i))) : va_E)) = _; rw [k5]; rfl
theorem ctd_14 {G : Gx} {S T : Sd} {th : Int32} {o : Int64} {ex : Nat → Option (Nat × Nat)} {ad : Nat → Nat → Nat} {S9 : Sd} {ad9 : Nat → Nat → Nat} (k0 : S9.1 0 = S.1 0) (k1 : S9.1 1 = S.1 1) (k2 : S9.1 2 = S.1 2) (k3 : S9.1 3 = S.1 3) (k4 : S9.1 4 = S.1 4) (k5 : S9.2 = S.2) (ka : ∀ k, ¬ k = 11 → ad9 k = ad k) (i : Nat) : ct G.2.1 S9 T th o ex ad9 14 i = ct G.2.1 S T th o ex ad 14 i := by
  have kk : ∀ k, ¬ k = 11 → ∀ i, ad9 k i = ad k i := fun k hk i => by rw [ka k hk]
  have kc : crr ad9 = crr ad := by unfold crr; rw [ka 4 (by decide)]
  have ks : csr ad9 = csr ad := by unfold csr; rw [ka 6 (by decide)]
  show (if i = 0 then some (Sum.inl (G.2.1 0, 20, Sum.inl (T.1 14))) else none : Option va_E) = (if i = 0 then some (Sum.inl (G.2.1 0, 20, Sum.inl (T.1 14))) else none : Option va_E); rfl
theorem ctd_15 {G : Gx} {S T : Sd} {th : Int32} {o : Int64} {ex : Nat → Option (Nat × Nat)} {ad : Nat → Nat → Nat} {S9 : Sd} {ad9 : Nat → Nat → Nat} (k0 : S9.1 0 = S.1 0) (k1 : S9.1 1 = S.1 1) (k2 : S9.1 2 = S.1 2) (k3 : S9.1 3 = S.1 3) (k4 : S9.1 4 = S.1 4) (k5 : S9.2 = S.2) (ka : ∀ k, ¬ k = 11 → ad9 k = ad k) (i : Nat) : ct G.2.1 S9 T th o ex ad9 15 i = ct G.2.1 S T th o ex ad 15 i := by
  have kk : ∀ k, ¬ k = 11 → ∀ i, ad9 k i = ad k i := fun k hk i => by rw [ka k hk]
  have kc : crr ad9 = crr ad := by unfold crr; rw [ka 4 (by decide)]
  have ks : csr ad9 = csr ad := by unfold csr; rw [ka 6 (by decide)]
  show (if i = 0 then some (Sum.inl (G.2.1 0, 20, Sum.inl (T.1 15))) else none : Option va_E) = (if i = 0 then some (Sum.inl (G.2.1 0, 20, Sum.inl (T.1 15))) else none : Option va_E); rfl
theorem ctd_16 {G : Gx} {S T : Sd} {th : Int32} {o : Int64} {ex : Nat → Option (Nat × Nat)} {ad : Nat → Nat → Nat} {S9 : Sd} {ad9 : Nat → Nat → Nat} (k0 : S9.1 0 = S.1 0) (k1 : S9.1 1 = S.1 1) (k2 : S9.1 2 = S.1 2) (k3 : S9.1 3 = S.1 3) (k4 : S9.1 4 = S.1 4) (k5 : S9.2 = S.2) (ka : ∀ k, ¬ k = 11 → ad9 k = ad k) (i : Nat) : ct G.2.1 S9 T th o ex ad9 16 i = ct G.2.1 S T th o ex ad 16 i := by
  have kk : ∀ k, ¬ k = 11 → ∀ i, ad9 k i = ad k i := fun k hk i => by rw [ka k hk]
  have kc : crr ad9 = crr ad := by unfold crr; rw [ka 4 (by decide)]
  have ks : csr ad9 = csr ad := by unfold csr; rw [ka 6 (by decide)]
  show (if i = 0 then some (Sum.inl (G.2.1 0, 20, Sum.inl (T.1 16))) else none : Option va_E) = (if i = 0 then some (Sum.inl (G.2.1 0, 20, Sum.inl (T.1 16))) else none : Option va_E); rfl
theorem ctd_17 {G : Gx} {S T : Sd} {th : Int32} {o : Int64} {ex : Nat → Option (Nat × Nat)} {ad : Nat → Nat → Nat} {S9 : Sd} {ad9 : Nat → Nat → Nat} (k0 : S9.1 0 = S.1 0) (k1 : S9.1 1 = S.1 1) (k2 : S9.1 2 = S.1 2) (k3 : S9.1 3 = S.1 3) (k4 : S9.1 4 = S.1 4) (k5 : S9.2 = S.2) (ka : ∀ k, ¬ k = 11 → ad9 k = ad k) (i : Nat) : ct G.2.1 S9 T th o ex ad9 17 i = ct G.2.1 S T th o ex ad 17 i := by
  have kk : ∀ k, ¬ k = 11 → ∀ i, ad9 k i = ad k i := fun k hk i => by rw [ka k hk]
  have kc : crr ad9 = crr ad := by unfold crr; rw [ka 4 (by decide)]
  have ks : csr ad9 = csr ad := by unfold csr; rw [ka 6 (by decide)]
  show (if i = 0 then some (Sum.inl (G.2.1 0, 20, Sum.inl (T.1 17))) else none : Option va_E) = (if i = 0 then some (Sum.inl (G.2.1 0, 20, Sum.inl (T.1 17))) else none : Option va_E); rfl
theorem ctd_18 {G : Gx} {S T : Sd} {th : Int32} {o : Int64} {ex : Nat → Option (Nat × Nat)} {ad : Nat → Nat → Nat} {S9 : Sd} {ad9 : Nat → Nat → Nat} (k0 : S9.1 0 = S.1 0) (k1 : S9.1 1 = S.1 1) (k2 : S9.1 2 = S.1 2) (k3 : S9.1 3 = S.1 3) (k4 : S9.1 4 = S.1 4) (k5 : S9.2 = S.2) (ka : ∀ k, ¬ k = 11 → ad9 k = ad k) (i : Nat) : ct G.2.1 S9 T th o ex ad9 18 i = ct G.2.1 S T th o ex ad 18 i := by
  have kk : ∀ k, ¬ k = 11 → ∀ i, ad9 k i = ad k i := fun k hk i => by rw [ka k hk]
  have kc : crr ad9 = crr ad := by unfold crr; rw [ka 4 (by decide)]
  have ks : csr ad9 = csr ad := by unfold csr; rw [ka 6 (by decide)]
  show (if i = 0 then some (Sum.inl (G.2.1 0, 20, Sum.inl (T.1 18))) else none : Option va_E) = (if i = 0 then some (Sum.inl (G.2.1 0, 20, Sum.inl (T.1 18))) else none : Option va_E); rfl
theorem ctd_19 {G : Gx} {S T : Sd} {th : Int32} {o : Int64} {ex : Nat → Option (Nat × Nat)} {ad : Nat → Nat → Nat} {S9 : Sd} {ad9 : Nat → Nat → Nat} (k0 : S9.1 0 = S.1 0) (k1 : S9.1 1 = S.1 1) (k2 : S9.1 2 = S.1 2) (k3 : S9.1 3 = S.1 3) (k4 : S9.1 4 = S.1 4) (k5 : S9.2 = S.2) (ka : ∀ k, ¬ k = 11 → ad9 k = ad k) (i : Nat) : ct G.2.1 S9 T th o ex ad9 19 i = ct G.2.1 S T th o ex ad 19 i := by
  have kk : ∀ k, ¬ k = 11 → ∀ i, ad9 k i = ad k i := fun k hk i => by rw [ka k hk]
  have kc : crr ad9 = crr ad := by unfold crr; rw [ka 4 (by decide)]
  have ks : csr ad9 = csr ad := by unfold csr; rw [ka 6 (by decide)]
  show (if i = 0 then some (Sum.inl (G.2.1 0, 6, Sum.inl (T.1 19))) else none : Option va_E) = (if i = 0 then some (Sum.inl (G.2.1 0, 6, Sum.inl (T.1 19))) else none : Option va_E); rfl
theorem ctd_20 {G : Gx} {S T : Sd} {th : Int32} {o : Int64} {ex : Nat → Option (Nat × Nat)} {ad : Nat → Nat → Nat} {S9 : Sd} {ad9 : Nat → Nat → Nat} (k0 : S9.1 0 = S.1 0) (k1 : S9.1 1 = S.1 1) (k2 : S9.1 2 = S.1 2) (k3 : S9.1 3 = S.1 3) (k4 : S9.1 4 = S.1 4) (k5 : S9.2 = S.2) (ka : ∀ k, ¬ k = 11 → ad9 k = ad k) (i : Nat) : ct G.2.1 S9 T th o ex ad9 20 i = ct G.2.1 S T th o ex ad 20 i := by
  have kk : ∀ k, ¬ k = 11 → ∀ i, ad9 k i = ad k i := fun k hk i => by rw [ka k hk]
  have kc : crr ad9 = crr ad := by unfold crr; rw [ka 4 (by decide)]
  have ks : csr ad9 = csr ad := by unfold csr; rw [ka 6 (by decide)]
  show (if i = 0 then some (Sum.inl (G.2.1 1, 60, Sum.inr (Sum.inl (T.2 0)))) else none : Option va_E) = (if i = 0 then some (Sum.inl (G.2.1 1, 60, Sum.inr (Sum.inl (T.2 0)))) else none : Option va_E); rfl
theorem ctd_21 {G : Gx} {S T : Sd} {th : Int32} {o : Int64} {ex : Nat → Option (Nat × Nat)} {ad : Nat → Nat → Nat} {S9 : Sd} {ad9 : Nat → Nat → Nat} (k0 : S9.1 0 = S.1 0) (k1 : S9.1 1 = S.1 1) (k2 : S9.1 2 = S.1 2) (k3 : S9.1 3 = S.1 3) (k4 : S9.1 4 = S.1 4) (k5 : S9.2 = S.2) (ka : ∀ k, ¬ k = 11 → ad9 k = ad k) (i : Nat) : ct G.2.1 S9 T th o ex ad9 21 i = ct G.2.1 S T th o ex ad 21 i := by
  have kk : ∀ k, ¬ k = 11 → ∀ i, ad9 k i = ad k i := fun k hk i => by rw [ka k hk]
  have kc : crr ad9 = crr ad := by unfold crr; rw [ka 4 (by decide)]
  have ks : csr ad9 = csr ad := by unfold csr; rw [ka 6 (by decide)]
  show (if i = 0 then some (Sum.inl (G.2.1 1, 6, Sum.inr (Sum.inl (T.2 1)))) else none : Option va_E) = (if i = 0 then some (Sum.inl (G.2.1 1, 6, Sum.inr (Sum.inl (T.2 1)))) else none : Option va_E); rfl
theorem ctd_22 {G : Gx} {S T : Sd} {th : Int32} {o : Int64} {ex : Nat → Option (Nat × Nat)} {ad : Nat → Nat → Nat} {S9 : Sd} {ad9 : Nat → Nat → Nat} (k0 : S9.1 0 = S.1 0) (k1 : S9.1 1 = S.1 1) (k2 : S9.1 2 = S.1 2) (k3 : S9.1 3 = S.1 3) (k4 : S9.1 4 = S.1 4) (k5 : S9.2 = S.2) (ka : ∀ k, ¬ k = 11 → ad9 k = ad k) (i : Nat) : ct G.2.1 S9 T th o ex ad9 22 i = ct G.2.1 S T th o ex ad 22 i := by
  have kk : ∀ k, ¬ k = 11 → ∀ i, ad9 k i = ad k i := fun k hk i => by rw [ka k hk]
  have kc : crr ad9 = crr ad := by unfold crr; rw [ka 4 (by decide)]
  have ks : csr ad9 = csr ad := by unfold csr; rw [ka 6 (by decide)]
  show (if i = 0 then some (Sum.inl (G.2.1 0, 3, Sum.inl (T.1 22))) else none : Option va_E) = (if i = 0 then some (Sum.inl (G.2.1 0, 3, Sum.inl (T.1 22))) else none : Option va_E); rfl
theorem ctd_23 {G : Gx} {S T : Sd} {th : Int32} {o : Int64} {ex : Nat → Option (Nat × Nat)} {ad : Nat → Nat → Nat} {S9 : Sd} {ad9 : Nat → Nat → Nat} (k0 : S9.1 0 = S.1 0) (k1 : S9.1 1 = S.1 1) (k2 : S9.1 2 = S.1 2) (k3 : S9.1 3 = S.1 3) (k4 : S9.1 4 = S.1 4) (k5 : S9.2 = S.2) (ka : ∀ k, ¬ k = 11 → ad9 k = ad k) (i : Nat) : ct G.2.1 S9 T th o ex ad9 23 i = ct G.2.1 S T th o ex ad 23 i := by
  have kk : ∀ k, ¬ k = 11 → ∀ i, ad9 k i = ad k i := fun k hk i => by rw [ka k hk]
  have kc : crr ad9 = crr ad := by unfold crr; rw [ka 4 (by decide)]
  have ks : csr ad9 = csr ad := by unfold csr; rw [ka 6 (by decide)]
  show (none : Option va_E) = (none : Option va_E); rfl
theorem ctd_24 {G : Gx} {S T : Sd} {th : Int32} {o : Int64} {ex : Nat → Option (Nat × Nat)} {ad : Nat → Nat → Nat} {S9 : Sd} {ad9 : Nat → Nat → Nat} (k0 : S9.1 0 = S.1 0) (k1 : S9.1 1 = S.1 1) (k2 : S9.1 2 = S.1 2) (k3 : S9.1 3 = S.1 3) (k4 : S9.1 4 = S.1 4) (k5 : S9.2 = S.2) (ka : ∀ k, ¬ k = 11 → ad9 k = ad k) (i : Nat) : ct G.2.1 S9 T th o ex ad9 24 i = ct G.2.1 S T th o ex ad 24 i := by
  have kk : ∀ k, ¬ k = 11 → ∀ i, ad9 k i = ad k i := fun k hk i => by rw [ka k hk]
  have kc : crr ad9 = crr ad := by unfold crr; rw [ka 4 (by decide)]
  have ks : csr ad9 = csr ad := by unfold csr; rw [ka 6 (by decide)]
  show (none : Option va_E) = (none : Option va_E); rfl
theorem ctd_25 {G : Gx} {S T : Sd} {th : Int32} {o : Int64} {ex : Nat → Option (Nat × Nat)} {ad : Nat → Nat → Nat} {S9 : Sd} {ad9 : Nat → Nat → Nat} (k0 : S9.1 0 = S.1 0) (k1 : S9.1 1 = S.1 1) (k2 : S9.1 2 = S.1 2) (k3 : S9.1 3 = S.1 3) (k4 : S9.1 4 = S.1 4) (k5 : S9.2 = S.2) (ka : ∀ k, ¬ k = 11 → ad9 k = ad k) (i : Nat) : ct G.2.1 S9 T th o ex ad9 25 i = ct G.2.1 S T th o ex ad 25 i := by
  have kk : ∀ k, ¬ k = 11 → ∀ i, ad9 k i = ad k i := fun k hk i => by rw [ka k hk]
  have kc : crr ad9 = crr ad := by unfold crr; rw [ka 4 (by decide)]
  have ks : csr ad9 = csr ad := by unfold csr; rw [ka 6 (by decide)]
  show (none : Option va_E) = (none : Option va_E); rfl
theorem ctd_26 {G : Gx} {S T : Sd} {th : Int32} {o : Int64} {ex : Nat → Option (Nat × Nat)} {ad : Nat → Nat → Nat} {S9 : Sd} {ad9 : Nat → Nat → Nat} (k0 : S9.1 0 = S.1 0) (k1 : S9.1 1 = S.1 1) (k2 : S9.1 2 = S.1 2) (k3 : S9.1 3 = S.1 3) (k4 : S9.1 4 = S.1 4) (k5 : S9.2 = S.2) (ka : ∀ k, ¬ k = 11 → ad9 k = ad k) (i : Nat) : ct G.2.1 S9 T th o ex ad9 26 i = ct G.2.1 S T th o ex ad 26 i := by
  have kk : ∀ k, ¬ k = 11 → ∀ i, ad9 k i = ad k i := fun k hk i => by rw [ka k hk]
  have kc : crr ad9 = crr ad := by unfold crr; rw [ka 4 (by decide)]
  have ks : csr ad9 = csr ad := by unfold csr; rw [ka 6 (by decide)]
  show (none : Option va_E) = (none : Option va_E); rfl
theorem ctd_27 {G : Gx} {S T : Sd} {th : Int32} {o : Int64} {ex : Nat → Option (Nat × Nat)} {ad : Nat → Nat → Nat} {S9 : Sd} {ad9 : Nat → Nat → Nat} (k0 : S9.1 0 = S.1 0) (k1 : S9.1 1 = S.1 1) (k2 : S9.1 2 = S.1 2) (k3 : S9.1 3 = S.1 3) (k4 : S9.1 4 = S.1 4) (k5 : S9.2 = S.2) (ka : ∀ k, ¬ k = 11 → ad9 k = ad k) (i : Nat) : ct G.2.1 S9 T th o ex ad9 27 i = ct G.2.1 S T th o ex ad 27 i := by
  have kk : ∀ k, ¬ k = 11 → ∀ i, ad9 k i = ad k i := fun k hk i => by rw [ka k hk]
  have kc : crr ad9 = crr ad := by unfold crr; rw [ka 4 (by decide)]
  have ks : csr ad9 = csr ad := by unfold csr; rw [ka 6 (by decide)]
  show (none : Option va_E) = (none : Option va_E); rfl
theorem ctd_28 {G : Gx} {S T : Sd} {th : Int32} {o : Int64} {ex : Nat → Option (Nat × Nat)} {ad : Nat → Nat → Nat} {S9 : Sd} {ad9 : Nat → Nat → Nat} (k0 : S9.1 0 = S.1 0) (k1 : S9.1 1 = S.1 1) (k2 : S9.1 2 = S.1 2) (k3 : S9.1 3 = S.1 3) (k4 : S9.1 4 = S.1 4) (k5 : S9.2 = S.2) (ka : ∀ k, ¬ k = 11 → ad9 k = ad k) (i : Nat) : ct G.2.1 S9 T th o ex ad9 28 i = ct G.2.1 S T th o ex ad 28 i := by
  have kk : ∀ k, ¬ k = 11 → ∀ i, ad9 k i = ad k i := fun k hk i => by rw [ka k hk]
  have kc : crr ad9 = crr ad := by unfold crr; rw [ka 4 (by decide)]
  have ks : csr ad9 = csr ad := by unfold csr; rw [ka 6 (by decide)]
  show (none : Option va_E) = (none : Option va_E); rfl
set_option maxHeartbeats 2000000 in
theorem ctd_ext {G : Gx} {S T : Sd} {th : Int32} {o : Int64} {ex : Nat → Option (Nat × Nat)} {ad : Nat → Nat → Nat} {S9 : Sd} {ad9 : Nat → Nat → Nat} (k0 : S9.1 0 = S.1 0) (k1 : S9.1 1 = S.1 1) (k2 : S9.1 2 = S.1 2) (k3 : S9.1 3 = S.1 3) (k4 : S9.1 4 = S.1 4) (k5 : S9.2 = S.2) (ka : ∀ k, ¬ k = 11 → ad9 k = ad k) : ∀ k i, ¬ k = 0 → ¬ k = 10 → ¬ k = 11 → ct G.2.1 S9 T th o ex ad9 k i = ct G.2.1 S T th o ex ad k i := by
  intro k i h0 h10 h11
  match k, h0, h10, h11 with
  | 0, h0, _, _ => exact absurd rfl h0
  | 10, _, h10, _ => exact absurd rfl h10
  | 11, _, _, h11 => exact absurd rfl h11
  | 1, _, _, _ => exact ctd_1 k0 k1 k2 k3 k4 k5 ka i
  | 2, _, _, _ => exact ctd_2 k0 k1 k2 k3 k4 k5 ka i
  | 3, _, _, _ => exact ctd_3 k0 k1 k2 k3 k4 k5 ka i
  | 4, _, _, _ => exact ctd_4 k0 k1 k2 k3 k4 k5 ka i
  | 5, _, _, _ => exact ctd_5 k0 k1 k2 k3 k4 k5 ka i
  | 6, _, _, _ => exact ctd_6 k0 k1 k2 k3 k4 k5 ka i
  | 7, _, _, _ => exact ctd_7 k0 k1 k2 k3 k4 k5 ka i
  | 8, _, _, _ => exact ctd_8 k0 k1 k2 k3 k4 k5 ka i
  | 9, _, _, _ => exact ctd_9 k0 k1 k2 k3 k4 k5 ka i
  | 12, _, _, _ => exact ctd_12 k0 k1 k2 k3 k4 k5 ka i
  | 13, _, _, _ => exact ctd_13 k0 k1 k2 k3 k4 k5 ka i
  | 14, _, _, _ => exact ctd_14 k0 k1 k2 k3 k4 k5 ka i
  | 15, _, _, _ => exact ctd_15 k0 k1 k2 k3 k4 k5 ka i
  | 16, _, _, _ => exact ctd_16 k0 k1 k2 k3 k4 k5 ka i
  | 17, _, _, _ => exact ctd_17 k0 k1 k2 k3 k4 k5 ka i
  | 18, _, _, _ => exact ctd_18 k0 k1 k2 k3 k4 k5 ka i
  | 19, _, _, _ => exact ctd_19 k0 k1 k2 k3 k4 k5 ka i
  | 20, _, _, _ => exact ctd_20 k0 k1 k2 k3 k4 k5 ka i
  | 21, _, _, _ => exact ctd_21 k0 k1 k2 k3 k4 k5 ka i
  | 22, _, _, _ => exact ctd_22 k0 k1 k2 k3 k4 k5 ka i
  | 23, _, _, _ => exact ctd_23 k0 k1 k2 k3 k4 k5 ka i
  | 24, _, _, _ => exact ctd_24 k0 k1 k2 k3 k4 k5 ka i
  | 25, _, _, _ => exact ctd_25 k0 k1 k2 k3 k4 k5 ka i
  | 26, _, _, _ => exact ctd_26 k0 k1 k2 k3 k4 k5 ka i
  | 27, _, _, _ => exact ctd_27 k0 k1 k2 k3 k4 k5 ka i
  | 28, _, _, _ => exact ctd_28 k0 k1 k2 k3 k4 k5 ka i
  | k + 29, _, _, _ => show (none : Option va_E) = none; rfl
set_option maxHeartbeats 2000000 in
theorem w_dealA {G : Gx} {S T : Sd} {th : Int32} {o : Int64} {ex : Nat → Option (Nat × Nat)} {ad : Nat → Nat → Nat} {M : Mp} (h : WA G S T th o ex ad M) {n y bu am fd zd rt v : Int32} {S9 : Sd} {ad9 : Nat → Nat → Nat} (k0 : S9.1 0 = S.1 0) (k1 : S9.1 1 = S.1 1) (k2 : S9.1 2 = S.1 2) (k3 : S9.1 3 = S.1 3) (k4 : S9.1 4 = S.1 4) (k5 : S9.2 = S.2) (ka : ∀ k, ¬ k = 11 → ad9 k = ad k) (k7 : S9.1 5 0 = v) (hnd : ndl S9 = ndl S + 1) (kg : ∀ k j, ¬ k = 5 → ¬ j = ndl S → S9.1 k j = S.1 k j) (g6 : S9.1 6 (ndl S) = n) (g7 : S9.1 7 (ndl S) = y) (g8 : S9.1 8 (ndl S) = bu) (g9 : S9.1 9 (ndl S) = am) (g10 : S9.1 10 (ndl S) = rt) (g11 : S9.1 11 (ndl S) = fd) (g12 : S9.1 12 (ndl S) = zd) {q : Nat} (hq : M q = none) (kq : ad9 11 (ndl S) = q) (kn : ∀ i, ¬ i = ndl S → ad9 11 i = ad 11 i) :
    WA G S9 T th o ex ad9 (va_up (va_up (va_up M q (some (.inr (4, [.ref (ad 6 n.toNatClampNeg), .ref (ad 4 y.toNatClampNeg), .int bu, .int am, .int rt, .int fd, .int zd])))) (ad 10 0) (some (.inl (G.2.1 6, 20, .inr (.inr (.inr (.inr (va_up (dlr S ad) (S.1 5 0).toNatClampNeg (some q))))))))) (ad 0 0) (some (.inr (5, [.ref (ad 1 0), .ref (ad 3 0), .ref (ad 5 0), .ref (ad 10 0), .int v])))) := by
  have live : ∀ k i e, ct G.2.1 S T th o ex ad k i = some e → adr ex ad k i ≠ q := by
    intro k i e he z
    have hm := h.1 k i e he
    rw [z, hq] at hm
    cases hm
  have hdl : dlr S9 ad9 = va_up (dlr S ad) (S.1 5 0).toNatClampNeg (some q) := by
    funext j
    unfold dlr va_up
    rw [hnd]
    by_cases hj : j = ndl S
    · rw [if_pos (by omega), if_pos (show j = (S.1 5 0).toNatClampNeg from hj), hj, kq]
    · rw [if_neg (show ¬ j = (S.1 5 0).toNatClampNeg from hj), kn j hj]
      show _ = (if j < ndl S then some (ad 11 j) else none)
      by_cases h1 : j < ndl S
      · rw [if_pos h1, if_pos (by omega)]
      · rw [if_neg h1, if_neg (by omega)]
  have aN : ∀ k i, ¬ (k = 11 ∧ i = ndl S) → adr ex ad9 k i = adr ex ad k i := by
    intro k i hk
    by_cases h12 : k = 12
    · subst h12; rfl
    · by_cases h13 : k = 13
      · subst h13; rfl
      · rw [adr_o h12 h13, adr_o h12 h13]
        by_cases h11 : k = 11
        · subst h11; exact kn i (fun z => hk ⟨rfl, z⟩)
        · rw [ka k h11]
  have cls : ∀ k i e, ct G.2.1 S9 T th o ex ad9 k i = some e → (k = 11 ∧ i = ndl S ∧ e = .inr (4, [.ref (ad 6 n.toNatClampNeg), .ref (ad 4 y.toNatClampNeg), .int bu, .int am, .int rt, .int fd, .int zd])) ∨ (k = 10 ∧ i = 0 ∧ e = .inl (G.2.1 6, 20, .inr (.inr (.inr (.inr (va_up (dlr S ad) (S.1 5 0).toNatClampNeg (some q))))))) ∨ (k = 0 ∧ i = 0 ∧ e = .inr (5, [.ref (ad 1 0), .ref (ad 3 0), .ref (ad 5 0), .ref (ad 10 0), .int v])) ∨ (¬ (k = 11 ∧ i = ndl S) ∧ ¬ (k = 10 ∧ i = 0) ∧ ¬ (k = 0 ∧ i = 0) ∧ ct G.2.1 S T th o ex ad k i = some e) := by
    intro k i e he
    have kk : ∀ k, ¬ k = 11 → ∀ i, ad9 k i = ad k i := fun k hk i => by rw [ka k hk]
    by_cases hoth : k = 0 ∨ k = 10 ∨ k = 11
    case neg =>
      rw [ctd_ext k0 k1 k2 k3 k4 k5 ka k i (fun z => hoth (Or.inl z)) (fun z => hoth (Or.inr (Or.inl z))) (fun z => hoth (Or.inr (Or.inr z)))] at he
      exact Or.inr (Or.inr (Or.inr ⟨fun z => hoth (Or.inr (Or.inr z.1)), fun z => hoth (Or.inr (Or.inl z.1)), fun z => hoth (Or.inl z.1), he⟩))
    match k, he, hoth with
    | 0, he, _ =>
      by_cases hi0 : i = 0
      · subst hi0
        have he : some (Sum.inr (5, [Value.ref (ad9 1 0), Value.ref (ad9 3 0), Value.ref (ad9 5 0), Value.ref (ad9 10 0), Value.int (S9.1 5 0)])) = some e := he
        rw [kk 1 (by decide), kk 3 (by decide), kk 5 (by decide), kk 10 (by decide), k7] at he
        exact Or.inr (Or.inr (Or.inl ⟨rfl, rfl, (Option.some.inj he).symm⟩))
      · have he : (if i = 0 then _ else none) = some e := he
        rw [if_neg hi0] at he
        cases he
    | 10, he, _ =>
      by_cases hi0 : i = 0
      · subst hi0
        have he : some (Sum.inl (G.2.1 6, 20, Sum.inr (Sum.inr (Sum.inr (Sum.inr (dlr S9 ad9)))))) = some e := he
        rw [hdl] at he
        exact Or.inr (Or.inl ⟨rfl, rfl, (Option.some.inj he).symm⟩)
      · have he : (if i = 0 then _ else none) = some e := he
        rw [if_neg hi0] at he
        cases he
    | 11, he, _ =>
      have he : (if i < ndl S9 then some (Sum.inr (4, [Value.ref (ad9 6 (S9.1 6 i).toNatClampNeg), Value.ref (ad9 4 (S9.1 7 i).toNatClampNeg), Value.int (S9.1 8 i), Value.int (S9.1 9 i), Value.int (S9.1 10 i), Value.int (S9.1 11 i), Value.int (S9.1 12 i)])) else none) = some e := he
      rw [hnd, kk 6 (by decide), kk 4 (by decide)] at he
      by_cases hin : i = ndl S
      · subst hin
        rw [if_pos (by omega), g6, g7, g8, g9, g10, g11, g12] at he
        exact Or.inl ⟨rfl, rfl, (Option.some.inj he).symm⟩
      · refine Or.inr (Or.inr (Or.inr ⟨fun z => hin z.2, fun z => by omega, fun z => by omega, ?_⟩))
        rw [kg 6 i (by decide) hin, kg 7 i (by decide) hin, kg 8 i (by decide) hin, kg 9 i (by decide) hin, kg 10 i (by decide) hin, kg 11 i (by decide) hin, kg 12 i (by decide) hin] at he
        by_cases hlt2 : i < ndl S
        · rw [if_pos (by omega)] at he
          rw [ct11 hlt2]
          exact he
        · rw [if_neg (by omega)] at he
          cases he
    | k + 12, _, hoth => omega
    | 1, _, hoth => omega
    | 2, _, hoth => omega
    | 3, _, hoth => omega
    | 4, _, hoth => omega
    | 5, _, hoth => omega
    | 6, _, hoth => omega
    | 7, _, hoth => omega
    | 8, _, hoth => omega
    | 9, _, hoth => omega
  have l10 : ad 10 0 ≠ q := live 10 0 _ ct10
  have l0 : ad 0 0 ≠ q := live 0 0 _ ct0
  have n10 : ad 10 0 ≠ ad 0 0 := h.ne (k := 10) (k' := 0) ct10 ct0 (fun z => absurd z.1 (by decide))
  have aq : adr ex ad9 11 (ndl S) = q := kq
  refine ⟨fun k i e he => ?_, fun k i k' i' e e' h1 h2 ha => ?_⟩
  · rcases cls k i e he with ⟨rfl, hi9, rfl⟩ | ⟨rfl, rfl, rfl⟩ | ⟨rfl, rfl, rfl⟩ | ⟨a1, a2, a3, h0⟩
    · rw [hi9, aq, up_ne (Ne.symm l0), up_ne (Ne.symm l10), up_eq]
    · rw [aN 10 0 (by omega), show adr ex ad 10 0 = ad 10 0 from rfl, up_ne n10, up_eq]
    · rw [aN 0 0 (by omega), show adr ex ad 0 0 = ad 0 0 from rfl, up_eq]
    · have b0 : adr ex ad k i ≠ ad 0 0 := fun z => a3 (h.2 k i 0 0 e _ h0 ct0 z)
      have b10 : adr ex ad k i ≠ ad 10 0 := fun z => a2 (h.2 k i 10 0 e _ h0 ct10 z)
      rw [aN k i a1, up_ne b0, up_ne b10, up_ne (live k i e h0)]
      exact h.1 k i e h0
  · have old : ∀ k i e, ct G.2.1 S9 T th o ex ad9 k i = some e → (k = 11 ∧ i = ndl S) ∨ (¬ (k = 11 ∧ i = ndl S) ∧ ∃ f, ct G.2.1 S T th o ex ad k i = some f) := by
      intro k i e he
      rcases cls k i e he with ⟨a, b, -⟩ | ⟨rfl, rfl, -⟩ | ⟨rfl, rfl, -⟩ | ⟨a1, -, -, h0⟩
      · exact Or.inl ⟨a, b⟩
      · exact Or.inr ⟨fun z => by omega, _, ct10⟩
      · exact Or.inr ⟨fun z => by omega, _, ct0⟩
      · exact Or.inr ⟨a1, _, h0⟩
    rcases old k i e h1 with ⟨rfl, rfl⟩ | ⟨a1, f1, g1⟩ <;> rcases old k' i' e' h2 with ⟨rfl, b2⟩ | ⟨a2, f2, g2⟩
    · exact ⟨rfl, b2.symm⟩
    · rw [aq, aN _ _ a2] at ha; exact absurd ha.symm (live _ _ _ g2)
    · rw [b2, aq, aN _ _ a1] at ha; exact absurd ha (live _ _ _ g1)
    · rw [aN _ _ a1, aN _ _ a2] at ha; exact h.2 _ _ _ _ _ _ g1 g2 ha
theorem gb6 {S : Sd} {n y bu am fd zd rt : Int32} : gbV S n y bu am fd zd rt 6 (ndl S) = n := by
  unfold gbV
  rw [u2_n (fun q => absurd q.1 (by decide)), u2_n (fun q => absurd q.1 (by decide)), u2_n (fun q => absurd q.1 (by decide)), u2_n (fun q => absurd q.1 (by decide)), u2_n (fun q => absurd q.1 (by decide)), u2_n (fun q => absurd q.1 (by decide)), u2_s]
theorem gb7 {S : Sd} {n y bu am fd zd rt : Int32} : gbV S n y bu am fd zd rt 7 (ndl S) = y := by
  unfold gbV
  rw [u2_n (fun q => absurd q.1 (by decide)), u2_n (fun q => absurd q.1 (by decide)), u2_n (fun q => absurd q.1 (by decide)), u2_n (fun q => absurd q.1 (by decide)), u2_n (fun q => absurd q.1 (by decide)), u2_s]
theorem gb8 {S : Sd} {n y bu am fd zd rt : Int32} : gbV S n y bu am fd zd rt 8 (ndl S) = bu := by
  unfold gbV
  rw [u2_n (fun q => absurd q.1 (by decide)), u2_n (fun q => absurd q.1 (by decide)), u2_n (fun q => absurd q.1 (by decide)), u2_n (fun q => absurd q.1 (by decide)), u2_s]
theorem gb9 {S : Sd} {n y bu am fd zd rt : Int32} : gbV S n y bu am fd zd rt 9 (ndl S) = am := by
  unfold gbV
  rw [u2_n (fun q => absurd q.1 (by decide)), u2_n (fun q => absurd q.1 (by decide)), u2_n (fun q => absurd q.1 (by decide)), u2_s]
theorem gb11 {S : Sd} {n y bu am fd zd rt : Int32} : gbV S n y bu am fd zd rt 11 (ndl S) = fd := by
  unfold gbV
  rw [u2_n (fun q => absurd q.1 (by decide)), u2_n (fun q => absurd q.1 (by decide)), u2_s]
theorem gb12 {S : Sd} {n y bu am fd zd rt : Int32} : gbV S n y bu am fd zd rt 12 (ndl S) = zd := by
  unfold gbV
  rw [u2_n (fun q => absurd q.1 (by decide)), u2_s]
theorem gb10 {S : Sd} {n y bu am fd zd rt : Int32} : gbV S n y bu am fd zd rt 10 (ndl S) = rt := by
  unfold gbV
  rw [u2_s]
theorem w_dealV {G : Gx} {S T : Sd} {th : Int32} {o : Int64} {ex : Nat → Option (Nat × Nat)} {ad : Nat → Nat → Nat} {M : Mp} (h : WA G S T th o ex ad M) {n y bu am fd zd rt v : Int32} (hv : v.toNatClampNeg = ndl S + 1) {q : Nat} (hq : M q = none) : WA G (ndV S n y bu am fd zd rt v) T th o ex (u2 ad 11 (ndl S) q) (va_up (va_up (va_up M q (some (.inr (4, [.ref (ad 6 n.toNatClampNeg), .ref (ad 4 y.toNatClampNeg), .int bu, .int am, .int rt, .int fd, .int zd])))) (ad 10 0) (some (.inl (G.2.1 6, 20, .inr (.inr (.inr (.inr (va_up (dlr S ad) (S.1 5 0).toNatClampNeg (some q))))))))) (ad 0 0) (some (.inr (5, [.ref (ad 1 0), .ref (ad 3 0), .ref (ad 5 0), .ref (ad 10 0), .int v])))) := by
  have r5 : ∀ k, ¬ k = 5 → (ndV S n y bu am fd zd rt v).1 k = gbV S n y bu am fd zd rt k := fun k hk => u2r hk
  have rk : ∀ k, ¬ (6 ≤ k ∧ k ≤ 12) → gbV S n y bu am fd zd rt k = S.1 k := fun k hk => by
    unfold gbV
    rw [u2r (by omega), u2r (by omega), u2r (by omega), u2r (by omega), u2r (by omega), u2r (by omega), u2r (by omega)]
  have e5 : (ndV S n y bu am fd zd rt v).1 5 0 = v := by show u2 (gbV S n y bu am fd zd rt) 5 0 v 5 0 = v; exact u2_s
  exact w_dealA h (S9 := ndV S n y bu am fd zd rt v) (ad9 := u2 ad 11 (ndl S) q) (by rw [r5 0 (by decide), rk 0 (by decide)]) (by rw [r5 1 (by decide), rk 1 (by decide)]) (by rw [r5 2 (by decide), rk 2 (by decide)]) (by rw [r5 3 (by decide), rk 3 (by decide)]) (by rw [r5 4 (by decide), rk 4 (by decide)]) rfl (fun k hk => u2r hk) e5 (by unfold ndl at hv ⊢; rw [e5]; exact hv) (fun k j hk hj => by rw [r5 k hk]; exact gb_o hj)
    (by rw [r5 6 (by decide)]; exact gb6) (by rw [r5 7 (by decide)]; exact gb7) (by rw [r5 8 (by decide)]; exact gb8) (by rw [r5 9 (by decide)]; exact gb9) (by rw [r5 10 (by decide)]; exact gb10) (by rw [r5 11 (by decide)]; exact gb11) (by rw [r5 12 (by decide)]; exact gb12) hq u2_s (fun i hi => u2_n (fun z => hi z.2))
theorem nd_nn {S : Sd} (hi : Iv S) : 0 ≤ S.1 5 0 := Int32.le_iff_toInt_le.mpr hi.2.1.1
theorem lt_of_cmp {x y : Int64} (h : ¬ lg_cmp x y ≤ 0) : y < x := Int64.not_le.mp (fun z => h ((lg_cmp_le x y).mpr z))
theorem ge_of_cmp {x y : Int64} (h : lg_cmp x y ≤ 0) : ¬ y < x := Int64.not_lt.mpr ((lg_cmp_le x y).mp h)
set_option maxHeartbeats 4000000 in
set_option maxRecDepth 100000 in
theorem c_X5_deal {l : Launch} (hnt : l.stackTraces = false) (l' : Launch) (G : Gx) (M : Mp) (S T : Sd) (th : Int32) (o : Int64) (ex : Nat → Option (Nat × Nat)) (ad : Nat → Nat → Nat) (n y bu am f z : Int32) (hw : WA G S T th o ex ad M) (hi : Iv S) (hbu : bu = 0 ∨ bu = 1) : vx_Met l yX5_deal wsX5_deal ({ frames := 7, cells := 7, slots := 43, locals := 161 }) (Cv G M [.ref (ad 0 0), .int n, .int y, .int bu, .int am, .int f, .int z]) (va_Qi (S := Mp) (fun r M2 => ((0 ≤ n ∧ n < 5) ∧ (0 ≤ y ∧ y < 4)) ∧ ((1 ≤ am ∧ am ≤ 1000000) ∧ (0 ≤ f ∧ f ≤ 400) ∧ (f ≤ z ∧ z ≤ 400)) ∧ S.1 5 0 < 20 ∧ ¬ (S.1 3 n.toNatClampNeg).toInt64 < exw S n y bu am z ∧ r = S.1 5 0 ∧ ∃ q, WA G (ndS S n y bu am f z) T th o ex (u2 ad 11 (ndl S) q) M2) (Bm G (fun M2 => M2)) (AG G)) (Xq G M (fun E => (E = IO ∧ ¬ ((0 ≤ n ∧ n < 5) ∧ (0 ≤ y ∧ y < 4))) ∨ (E = IA ∧ ((0 ≤ n ∧ n < 5) ∧ (0 ≤ y ∧ y < 4)) ∧ ¬ ((1 ≤ am ∧ am ≤ 1000000) ∧ (0 ≤ f ∧ f ≤ 400) ∧ (f ≤ z ∧ z ≤ 400))) ∨ (E = IS ∧ ((0 ≤ n ∧ n < 5) ∧ (0 ≤ y ∧ y < 4)) ∧ ((1 ≤ am ∧ am ≤ 1000000) ∧ (0 ≤ f ∧ f ≤ 400) ∧ (f ≤ z ∧ z ≤ 400)) ∧ (¬ S.1 5 0 < 20 ∨ (S.1 3 n.toNatClampNeg).toInt64 < exw S n y bu am z)))) (7) (43) (AG G) := by
  refine m_metx [.ref (ad 0 0), .int n, .int y, .int bu, .int am, .int f, .int z] [(0, .ref (ad 0 0)), (1, .int n), (2, .int y), (3, .int bu), (4, .int am), (5, .int f), (6, .int z)] (by decide) rfl rfl (Nat.le_of_ble_eq_true rfl) ?_
  intro p e s m below meth c ls hx hb hr hml hown hts hlocks hin ht hC hM hl hS
  have f0 : M (ad 0 0) = some (.inr (5, [.ref (ad 1 0), .ref (ad 3 0), .ref (ad 5 0), .ref (ad 10 0), .int (S.1 5 0)])) := hw.1 0 0 _ rfl
  have f1 : M (ad 1 0) = some (.inr (1, [.ref (ad 2 0), .int (S.1 0 0)])) := hw.1 1 0 _ rfl
  have f2 : M (ad 2 0) = some (.inl (G.2.1 2, 1001, .inl (S.1 4))) := hw.1 2 0 _ rfl
  have f3 : M (ad 3 0) = some (.inl (G.2.1 3, 4, .inr (.inr (.inr (.inr (crr ad)))))) := hw.1 3 0 _ rfl
  have f5 : M (ad 5 0) = some (.inl (G.2.1 4, 5, .inr (.inr (.inr (.inr (csr ad)))))) := hw.1 5 0 _ rfl
  have f10 : M (ad 10 0) = some (.inl (G.2.1 6, 20, .inr (.inr (.inr (.inr (dlr S ad)))))) := hw.1 10 0 _ rfl
  refine lv_aload_n hx hb dX5_deal_0 rfl (lv_at hl 0 rfl) ?_
  refine lv_iload_n hx hb dX5_deal_1 rfl (lv_at hl 1 rfl) ?_
  refine kx_q (vx_runV (As := [.int n]) (rest := []) ⟨hx, hb, hml, hown, hts⟩ (c_X5_customerNumbered hnt l G M S T th o ex ad n hw hi) (cwV 1 hts gX5_deal_X5_customerNumbered rfl rfl rfl (by decide +kernel) ⟨Nat.le_of_ble_eq_true rfl, Nat.le_of_ble_eq_true rfl⟩) (preV_of hC hS hM f0 rfl) rfl rfl hl.1 rfl (lv_room (Nat.le_of_ble_eq_true rfl)) dX5_deal_2 ⟨Nat.le_of_ble_eq_true rfl, Nat.le_of_ble_eq_true rfl⟩) hS (fun E ce q9 H locs hE hM hS h1 h2 h3 => ?_) (fun r2 u2 H locs hp2 hM hS => ?_)
  · exact r_out ht hlocks hS hM (Or.inl ⟨hE.1, fun q9 => hE.2 q9.1⟩) h1 h2 h3 (Nat.le_of_ble_eq_true rfl) (Nat.le_of_ble_eq_true rfl)
  have hM : Hm G M H := hM
  obtain ⟨e2, b2⟩ := hp2
  subst e2
  have g2 := hw.1 _ _ _ (ct6 (G := G) (S := S) (T := T) (th := th) (o := o) (ex := ex) (ad := ad) (ix_lt 5 b2 (by decide)))
  have g2_7 := hw.1 _ _ _ (ct7 (G := G) (S := S) (T := T) (th := th) (o := o) (ex := ex) (ad := ad) (ix_lt 5 b2 (by decide)))
  have g2_8 := hw.1 _ _ _ (ct8 (G := G) (S := S) (T := T) (th := th) (o := o) (ex := ex) (ad := ad) (ix_lt 5 b2 (by decide)))
  have g2_9 := hw.1 _ _ _ (ct9 (G := G) (S := S) (T := T) (th := th) (o := o) (ex := ex) (ad := ad) (ix_lt 5 b2 (by decide)))
  refine lv_astore (lv' := [(7, .ref (ad 6 (n.toNatClampNeg))), (0, .ref (ad 0 0)), (1, .int n), (2, .int y), (3, .int bu), (4, .int am), (5, .int f), (6, .int z)]) hx hb dX5_deal_5 hl (by decide) rfl (fun ls hl => ?_)
  refine lv_aload_n hx hb dX5_deal_7 rfl (lv_at hl 1 rfl) ?_
  refine lv_iload_n hx hb dX5_deal_8 rfl (lv_at hl 3 rfl) ?_
  refine kx_q (vx_runV (As := [.int y]) (rest := []) ⟨hx, hb, hml, hown, hts⟩ (c_X5_currencyNumbered hnt l G M S T th o ex ad y hw hi) (cwV 1 hts gX5_deal_X5_currencyNumbered rfl rfl rfl (by decide +kernel) ⟨Nat.le_of_ble_eq_true rfl, Nat.le_of_ble_eq_true rfl⟩) (preV_of hC hS hM f0 rfl) rfl rfl hl.1 rfl (lv_room (Nat.le_of_ble_eq_true rfl)) dX5_deal_9 ⟨Nat.le_of_ble_eq_true rfl, Nat.le_of_ble_eq_true rfl⟩) hS (fun E ce q9 H locs hE hM hS h1 h2 h3 => ?_) (fun r9 u9 H locs hp9 hM hS => ?_)
  · exact r_out ht hlocks hS hM (Or.inl ⟨hE.1, fun q9 => hE.2 q9.2⟩) h1 h2 h3 (Nat.le_of_ble_eq_true rfl) (Nat.le_of_ble_eq_true rfl)
  have hM : Hm G M H := hM
  obtain ⟨e9, b9⟩ := hp9
  subst e9
  have g9 := hw.1 _ _ _ (ct4 (G := G) (S := S) (T := T) (th := th) (o := o) (ex := ex) (ad := ad) (ix_lt 4 b9 (by decide)))
  refine lv_astore (lv' := [(8, .ref (ad 4 (y.toNatClampNeg))), (7, .ref (ad 6 (n.toNatClampNeg))), (0, .ref (ad 0 0)), (1, .int n), (2, .int y), (3, .int bu), (4, .int am), (5, .int f), (6, .int z)]) hx hb dX5_deal_12 hl (by decide) rfl (fun ls hl => ?_)
  refine lv_iload hx hb dX5_deal_14 (lv_at hl 6 rfl) ?_
  refine lv_iconst (v := 1) hx hb dX5_deal_16 (by decide) ?_
  refine lv_ldc (own := RX5) (v := 1000000) hx hb hown (hts (.constant RX5 80 1000000) (by decide +kernel)) dX5_deal_17 ?_
  refine kx_v (vx_runS (As := [.int am, .int 1, .int 1000000]) (rest := []) ⟨hx, hb, hml, hown, hts⟩ (c_X5_requireRange hnt l G M am (1 : Int32) (1000000 : Int32)) (va_cwS 3 hts gX5_deal_X5_requireRange rfl rfl rfl (by decide +kernel) ⟨Nat.le_of_ble_eq_true rfl, Nat.le_of_ble_eq_true rfl⟩) (preS_of hC hS hM) rfl rfl hl.1 rfl (lv_room (Nat.le_of_ble_eq_true rfl)) dX5_deal_19 ⟨Nat.le_of_ble_eq_true rfl, Nat.le_of_ble_eq_true rfl⟩) hS (fun E ce q9 H locs hE hM hS h1 h2 h3 => ?_) (fun u19 H locs hp19 hM hS => ?_)
  · exact r_out ht hlocks hS hM (Or.inr (Or.inl ⟨hE.1, ⟨b2, b9⟩, fun q9 => hE.2 q9.1⟩)) h1 h2 h3 (Nat.le_of_ble_eq_true rfl) (Nat.le_of_ble_eq_true rfl)
  have hM : Hm G M H := hM
  refine lv_iload hx hb dX5_deal_22 (lv_at hl 7 rfl) ?_
  refine lv_iconst (v := 0) hx hb dX5_deal_24 (by decide) ?_
  refine lv_sipush (v := 400) hx hb dX5_deal_25 (by decide) ?_
  refine kx_v (vx_runS (As := [.int f, .int 0, .int 400]) (rest := []) ⟨hx, hb, hml, hown, hts⟩ (c_X5_requireRange hnt l G M f (0 : Int32) (400 : Int32)) (va_cwS 3 hts gX5_deal_X5_requireRange rfl rfl rfl (by decide +kernel) ⟨Nat.le_of_ble_eq_true rfl, Nat.le_of_ble_eq_true rfl⟩) (preS_of hC hS hM) rfl rfl hl.1 rfl (lv_room (Nat.le_of_ble_eq_true rfl)) dX5_deal_28 ⟨Nat.le_of_ble_eq_true rfl, Nat.le_of_ble_eq_true rfl⟩) hS (fun E ce q9 H locs hE hM hS h1 h2 h3 => ?_) (fun u28 H locs hp28 hM hS => ?_)
  · exact r_out ht hlocks hS hM (Or.inr (Or.inl ⟨hE.1, ⟨b2, b9⟩, fun q9 => hE.2 q9.2.1⟩)) h1 h2 h3 (Nat.le_of_ble_eq_true rfl) (Nat.le_of_ble_eq_true rfl)
  have hM : Hm G M H := hM
  refine lv_iload hx hb dX5_deal_31 (lv_at hl 8 rfl) ?_
  refine lv_iload hx hb dX5_deal_33 (lv_at hl 7 rfl) ?_
  refine lv_sipush (v := 400) hx hb dX5_deal_35 (by decide) ?_
  refine kx_v (vx_runS (As := [.int z, .int f, .int 400]) (rest := []) ⟨hx, hb, hml, hown, hts⟩ (c_X5_requireRange hnt l G M z f (400 : Int32)) (va_cwS 3 hts gX5_deal_X5_requireRange rfl rfl rfl (by decide +kernel) ⟨Nat.le_of_ble_eq_true rfl, Nat.le_of_ble_eq_true rfl⟩) (preS_of hC hS hM) rfl rfl hl.1 rfl (lv_room (Nat.le_of_ble_eq_true rfl)) dX5_deal_38 ⟨Nat.le_of_ble_eq_true rfl, Nat.le_of_ble_eq_true rfl⟩) hS (fun E ce q9 H locs hE hM hS h1 h2 h3 => ?_) (fun u38 H locs hp38 hM hS => ?_)
  · exact r_out ht hlocks hS hM (Or.inr (Or.inl ⟨hE.1, ⟨b2, b9⟩, fun q9 => hE.2 q9.2.2⟩)) h1 h2 h3 (Nat.le_of_ble_eq_true rfl) (Nat.le_of_ble_eq_true rfl)
  have hM : Hm G M H := hM
  refine lv_aload_n hx hb dX5_deal_41 rfl (lv_at hl 2 rfl) ?_
  refine m_get (ci := 5) (v := .int (S.1 5 0)) (C := RX5) (T := TX5) (N := 5) (a := (ad 0 0)) hx hb hts (by decide +kernel) hown hC hM f0 rfl 4 (by decide) (hts (.fieldLink RX5 81 "Forwardroll" "dealCount" "I") (by decide +kernel)) (fun _ h9 => h9) rfl dX5_deal_42 ?_
  refine lv_istore (lv' := [(9, .int (S.1 5 0)), (8, .ref (ad 4 (y.toNatClampNeg))), (7, .ref (ad 6 (n.toNatClampNeg))), (0, .ref (ad 0 0)), (1, .int n), (2, .int y), (3, .int bu), (4, .int am), (5, .int f), (6, .int z)]) hx hb dX5_deal_45 hl (by decide) rfl (fun ls hl => ?_)
  refine lv_iload hx hb dX5_deal_47 (lv_at hl 0 rfl) ?_
  refine lv_aload_n hx hb dX5_deal_49 rfl (lv_at hl 3 rfl) ?_
  refine m_get (ci := 5) (v := .ref (ad 10 0)) (C := RX5) (T := TX5) (N := 5) (a := (ad 0 0)) hx hb hts (by decide +kernel) hown hC hM f0 rfl 3 (by decide) (hts (.fieldLink RX5 34 "Forwardroll" "deals" "[LForwardroll$Deal;") (by decide +kernel)) (fun _ h9 => h9) rfl dX5_deal_50 ?_
  refine m_alen (a := (ad 10 0)) hx hb hC hM 6 rfl f10 (v := 20) rfl dX5_deal_53 ?_
  refine k_i (va_runS (As := [.int (S.1 5 0), .int 20]) (rest := []) ⟨hx, hb, hml, hown, hts⟩ (c_X5_isIndex l G M (S.1 5 0) 20) (va_cwS 2 hts gX5_deal_X5_isIndex rfl rfl rfl (by decide +kernel) ⟨Nat.le_of_ble_eq_true rfl, Nat.le_of_ble_eq_true rfl⟩) (preS_of hC hS hM) rfl rfl hl.1 rfl (lv_room (Nat.le_of_ble_eq_true rfl)) dX5_deal_54 ⟨Nat.le_of_ble_eq_true rfl, Nat.le_of_ble_eq_true rfl⟩) hS (fun r54 u54 H locs hp54 hM hS => ?_)
  have hM : Hm G M H := hM
  have hp54 : r54 = ixb (S.1 5 0) 20 := hp54
  subst hp54
  refine lv_if_ne (tgt := 70) hx hb dX5_deal_57 (by decide) (fun c_57 => ?_) (fun c_57 => ?_)
  · refine lv_aload_n hx hb dX5_deal_70 rfl (lv_at hl 3 rfl) ?_
    refine m_get (ci := 5) (v := .ref (ad 1 0)) (C := RX5) (T := TX5) (N := 5) (a := (ad 0 0)) hx hb hts (by decide +kernel) hown hC hM f0 rfl 0 (by decide) (hts (.fieldLink RX5 12 "Forwardroll" "calendar" "LForwardroll$Calendar;") (by decide +kernel)) (fun _ h9 => h9) rfl dX5_deal_71 ?_
    refine m_getN (host := RX5) (ci := 1) (v := .int (S.1 0 0)) (C := RX1) (T := TX1) (N := 2) (a := (ad 1 0)) hx hb hts (by decide +kernel) hown hC hM f1 rfl 1 (by decide) (hC.w 0 rfl) (fun _ h9 => h9) rfl dX5_deal_74 ?_
    refine lv_istore (lv' := [(10, .int (S.1 0 0)), (9, .int (S.1 5 0)), (8, .ref (ad 4 (y.toNatClampNeg))), (7, .ref (ad 6 (n.toNatClampNeg))), (0, .ref (ad 0 0)), (1, .int n), (2, .int y), (3, .int bu), (4, .int am), (5, .int f), (6, .int z)]) hx hb dX5_deal_77 hl (by decide) rfl (fun ls hl => ?_)
    refine m_new (ci := 4) (fs := [.null, .null, .int 0, .int 0, .int 0, .int 0, .int 0]) (C := RX4) (T := TX4) (N := 7) hx hb hts (by decide +kernel) tyX4 tyX4_ok hown (hts (.classLink RX5 32 RX4) (by decide +kernel)) (hts (.instantiable RX4 7) (by decide +kernel)) (hts (.initialized RX4) (by decide +kernel)) hC hM hS hC.1 rfl (fun j hj => by rcases (show j = 0 ∨ j = 1 ∨ j = 2 ∨ j = 3 ∨ j = 4 ∨ j = 5 ∨ j = 6 by omega) with rfl | rfl | rfl | rfl | rfl | rfl | rfl <;> rfl) (Nat.le_of_ble_eq_true rfl) (Nat.le_of_ble_eq_true rfl) dX5_deal_79 (fun q79 H hn79 hM hS => ?_)
    have hM : Hm G (va_up M q79 (some (.inr (4, [.null, .null, .int 0, .int 0, .int 0, .int 0, .int 0])))) H := hM
    have hne79_2 : (ad 0 0) ≠ q79 := fun h9 => absurd (Eq.trans (Eq.trans (Eq.symm f0) (congrArg M h9)) hn79) (by simp)
    have f79_2 : (va_up M q79 (some (.inr (4, [.null, .null, .int 0, .int 0, .int 0, .int 0, .int 0])))) (ad 0 0) = some (.inr (5, [.ref (ad 1 0), .ref (ad 3 0), .ref (ad 5 0), .ref (ad 10 0), .int (S.1 5 0)])) := (up_ne hne79_2).trans f0
    have hne79_3 : (ad 1 0) ≠ q79 := fun h9 => absurd (Eq.trans (Eq.trans (Eq.symm f1) (congrArg M h9)) hn79) (by simp)
    have f79_3 : (va_up M q79 (some (.inr (4, [.null, .null, .int 0, .int 0, .int 0, .int 0, .int 0])))) (ad 1 0) = some (.inr (1, [.ref (ad 2 0), .int (S.1 0 0)])) := (up_ne hne79_3).trans f1
    have hne79_4 : (ad 2 0) ≠ q79 := fun h9 => absurd (Eq.trans (Eq.trans (Eq.symm f2) (congrArg M h9)) hn79) (by simp)
    have f79_4 : (va_up M q79 (some (.inr (4, [.null, .null, .int 0, .int 0, .int 0, .int 0, .int 0])))) (ad 2 0) = some (.inl (G.2.1 2, 1001, .inl (S.1 4))) := (up_ne hne79_4).trans f2
    have hne79_5 : (ad 3 0) ≠ q79 := fun h9 => absurd (Eq.trans (Eq.trans (Eq.symm f3) (congrArg M h9)) hn79) (by simp)
    have f79_5 : (va_up M q79 (some (.inr (4, [.null, .null, .int 0, .int 0, .int 0, .int 0, .int 0])))) (ad 3 0) = some (.inl (G.2.1 3, 4, .inr (.inr (.inr (.inr (crr ad)))))) := (up_ne hne79_5).trans f3
    have hne79_6 : (ad 5 0) ≠ q79 := fun h9 => absurd (Eq.trans (Eq.trans (Eq.symm f5) (congrArg M h9)) hn79) (by simp)
    have f79_6 : (va_up M q79 (some (.inr (4, [.null, .null, .int 0, .int 0, .int 0, .int 0, .int 0])))) (ad 5 0) = some (.inl (G.2.1 4, 5, .inr (.inr (.inr (.inr (csr ad)))))) := (up_ne hne79_6).trans f5
    have hne79_7 : (ad 10 0) ≠ q79 := fun h9 => absurd (Eq.trans (Eq.trans (Eq.symm f10) (congrArg M h9)) hn79) (by simp)
    have f79_7 : (va_up M q79 (some (.inr (4, [.null, .null, .int 0, .int 0, .int 0, .int 0, .int 0])))) (ad 10 0) = some (.inl (G.2.1 6, 20, .inr (.inr (.inr (.inr (dlr S ad)))))) := (up_ne hne79_7).trans f10
    have hne79_8 : (ad 6 (n.toNatClampNeg)) ≠ q79 := fun h9 => absurd (Eq.trans (Eq.trans (Eq.symm g2) (congrArg M h9)) hn79) (by simp)
    have f79_8 : (va_up M q79 (some (.inr (4, [.null, .null, .int 0, .int 0, .int 0, .int 0, .int 0])))) (ad 6 (n.toNatClampNeg)) = some (.inr (3, [.int (S.1 3 (n.toNatClampNeg)), .ref (ad 7 (n.toNatClampNeg)), .ref (ad 8 (n.toNatClampNeg))])) := (up_ne hne79_8).trans g2
    have hne79_9 : (ad 7 (n.toNatClampNeg)) ≠ q79 := fun h9 => absurd (Eq.trans (Eq.trans (Eq.symm g2_7) (congrArg M h9)) hn79) (by simp)
    have f79_9 : (va_up M q79 (some (.inr (4, [.null, .null, .int 0, .int 0, .int 0, .int 0, .int 0])))) (ad 7 (n.toNatClampNeg)) = some (.inl (G.2.1 5, 1002, .inr (.inr (.inr (.inr (ntr ex ad (n.toNatClampNeg))))))) := (up_ne hne79_9).trans g2_7
    have hne79_10 : (ad 8 (n.toNatClampNeg)) ≠ q79 := fun h9 => absurd (Eq.trans (Eq.trans (Eq.symm g2_8) (congrArg M h9)) hn79) (by simp)
    have f79_10 : (va_up M q79 (some (.inr (4, [.null, .null, .int 0, .int 0, .int 0, .int 0, .int 0])))) (ad 8 (n.toNatClampNeg)) = some (.inr (0, [.ref (ad 9 (n.toNatClampNeg))])) := (up_ne hne79_10).trans g2_8
    have hne79_11 : (ad 9 (n.toNatClampNeg)) ≠ q79 := fun h9 => absurd (Eq.trans (Eq.trans (Eq.symm g2_9) (congrArg M h9)) hn79) (by simp)
    have f79_11 : (va_up M q79 (some (.inr (4, [.null, .null, .int 0, .int 0, .int 0, .int 0, .int 0])))) (ad 9 (n.toNatClampNeg)) = some (.inl (G.2.1 1, 5, .inr (.inl (rw5 (S.2 1) (n.toNatClampNeg))))) := (up_ne hne79_11).trans g2_9
    have hne79_12 : (ad 4 (y.toNatClampNeg)) ≠ q79 := fun h9 => absurd (Eq.trans (Eq.trans (Eq.symm g9) (congrArg M h9)) hn79) (by simp)
    have f79_12 : (va_up M q79 (some (.inr (4, [.null, .null, .int 0, .int 0, .int 0, .int 0, .int 0])))) (ad 4 (y.toNatClampNeg)) = some (.inr (2, [.int (nI (y.toNatClampNeg)), .int (S.1 1 (y.toNatClampNeg)), .int (S.1 2 (y.toNatClampNeg))])) := (up_ne hne79_12).trans g9
    have f79_q13 : (va_up M q79 (some (.inr (4, [.null, .null, .int 0, .int 0, .int 0, .int 0, .int 0])))) q79 = some (.inr (4, [.null, .null, .int 0, .int 0, .int 0, .int 0, .int 0])) := up_eq
    refine lv_dup hx hb dX5_deal_82 rfl ?_
    refine lv_aload hx hb dX5_deal_83 (lv_at hl 3 rfl) ?_
    refine lv_aload hx hb dX5_deal_85 (lv_at hl 2 rfl) ?_
    refine lv_iload_n hx hb dX5_deal_87 rfl (lv_at hl 7 rfl) ?_
    refine lv_iload hx hb dX5_deal_88 (lv_at hl 8 rfl) ?_
    refine lv_aload hx hb dX5_deal_90 (lv_at hl 2 rfl) ?_
    refine lv_iload hx hb dX5_deal_92 (lv_at hl 10 rfl) ?_
    refine k_i (va_runV (As := [.int z]) (rest := [.int am, .int bu, .ref (ad 4 (y.toNatClampNeg)), .ref (ad 6 (n.toNatClampNeg)), .ref q79, .ref q79]) ⟨hx, hb, hml, hown, hts⟩ (c_X2_forwardRate l G (va_up M q79 (some (.inr (4, [.null, .null, .int 0, .int 0, .int 0, .int 0, .int 0])))) (ad 4 (y.toNatClampNeg)) (nI (y.toNatClampNeg)) (S.1 1 (y.toNatClampNeg)) (S.1 2 (y.toNatClampNeg)) z f79_12) (cwV 1 hts gX5_deal_X2_forwardRate rfl rfl rfl (by decide +kernel) ⟨Nat.le_of_ble_eq_true rfl, Nat.le_of_ble_eq_true rfl⟩) (preV_of hC hS hM f79_12 rfl) rfl rfl hl.1 rfl (lv_room (Nat.le_of_ble_eq_true rfl)) dX5_deal_94 ⟨Nat.le_of_ble_eq_true rfl, Nat.le_of_ble_eq_true rfl⟩) hS (fun r94 u94 H locs hp94 hM hS => ?_)
    have hM : Hm G (va_up M q79 (some (.inr (4, [.null, .null, .int 0, .int 0, .int 0, .int 0, .int 0])))) H := hM
    have hp94 : r94 = al1 ((S.1 1 (y.toNatClampNeg)) + (S.1 2 (y.toNatClampNeg)) * z) := hp94
    subst hp94
    refine lv_iload hx hb dX5_deal_97 (lv_at hl 0 rfl) ?_
    refine lv_iload hx hb dX5_deal_99 (lv_at hl 9 rfl) ?_
    refine lv_iadd hx hb dX5_deal_101 ?_
    refine lv_iload hx hb dX5_deal_102 (lv_at hl 0 rfl) ?_
    refine lv_iload hx hb dX5_deal_104 (lv_at hl 10 rfl) ?_
    refine lv_iadd hx hb dX5_deal_106 ?_
    refine k_v (va_runI (As := [.ref (ad 6 (n.toNatClampNeg)), .ref (ad 4 (y.toNatClampNeg)), .int bu, .int am, .int (al1 ((S.1 1 (y.toNatClampNeg)) + (S.1 2 (y.toNatClampNeg)) * z)), .int ((S.1 0 0) + f), .int ((S.1 0 0) + z)]) (rest := [.ref q79]) ⟨hx, hb, hml, hown, hts⟩ (c_X4_init l G (va_up M q79 (some (.inr (4, [.null, .null, .int 0, .int 0, .int 0, .int 0, .int 0])))) q79 (ad 6 (n.toNatClampNeg)) (ad 4 (y.toNatClampNeg)) bu am (al1 ((S.1 1 (y.toNatClampNeg)) + (S.1 2 (y.toNatClampNeg)) * z)) ((S.1 0 0) + f) ((S.1 0 0) + z) f79_q13 hbu) (cwI 7 hts gX5_deal_X4_init rfl rfl rfl (hts (.initialized RX4) (by decide +kernel)) (hts (.methodLink RX5 90 yX4_init) (by decide +kernel)) (hts (.instanceMethod yX4_init) (by decide +kernel)) rfl (by decide +kernel) ⟨Nat.le_of_ble_eq_true rfl, Nat.le_of_ble_eq_true rfl⟩) (preS_of hC hS hM) rfl rfl hl.1 rfl (lv_room (Nat.le_of_ble_eq_true rfl)) dX5_deal_107 ⟨Nat.le_of_ble_eq_true rfl, Nat.le_of_ble_eq_true rfl⟩) hS (fun u107 H locs hp107 hM hS => ?_)
    have hM : Hm G (va_up M q79 (some (.inr (4, [.ref (ad 6 (n.toNatClampNeg)), .ref (ad 4 (y.toNatClampNeg)), .int bu, .int am, .int (al1 ((S.1 1 (y.toNatClampNeg)) + (S.1 2 (y.toNatClampNeg)) * z)), .int ((S.1 0 0) + f), .int ((S.1 0 0) + z)])))) H := up2 ▸ hM
    have f107_15 : (va_up M q79 (some (.inr (4, [.ref (ad 6 (n.toNatClampNeg)), .ref (ad 4 (y.toNatClampNeg)), .int bu, .int am, .int (al1 ((S.1 1 (y.toNatClampNeg)) + (S.1 2 (y.toNatClampNeg)) * z)), .int ((S.1 0 0) + f), .int ((S.1 0 0) + z)])))) (ad 0 0) = some (.inr (5, [.ref (ad 1 0), .ref (ad 3 0), .ref (ad 5 0), .ref (ad 10 0), .int (S.1 5 0)])) := (up_ne hne79_2).trans f0
    have f107_16 : (va_up M q79 (some (.inr (4, [.ref (ad 6 (n.toNatClampNeg)), .ref (ad 4 (y.toNatClampNeg)), .int bu, .int am, .int (al1 ((S.1 1 (y.toNatClampNeg)) + (S.1 2 (y.toNatClampNeg)) * z)), .int ((S.1 0 0) + f), .int ((S.1 0 0) + z)])))) (ad 1 0) = some (.inr (1, [.ref (ad 2 0), .int (S.1 0 0)])) := (up_ne hne79_3).trans f1
    have f107_17 : (va_up M q79 (some (.inr (4, [.ref (ad 6 (n.toNatClampNeg)), .ref (ad 4 (y.toNatClampNeg)), .int bu, .int am, .int (al1 ((S.1 1 (y.toNatClampNeg)) + (S.1 2 (y.toNatClampNeg)) * z)), .int ((S.1 0 0) + f), .int ((S.1 0 0) + z)])))) (ad 2 0) = some (.inl (G.2.1 2, 1001, .inl (S.1 4))) := (up_ne hne79_4).trans f2
    have f107_18 : (va_up M q79 (some (.inr (4, [.ref (ad 6 (n.toNatClampNeg)), .ref (ad 4 (y.toNatClampNeg)), .int bu, .int am, .int (al1 ((S.1 1 (y.toNatClampNeg)) + (S.1 2 (y.toNatClampNeg)) * z)), .int ((S.1 0 0) + f), .int ((S.1 0 0) + z)])))) (ad 3 0) = some (.inl (G.2.1 3, 4, .inr (.inr (.inr (.inr (crr ad)))))) := (up_ne hne79_5).trans f3
    have f107_19 : (va_up M q79 (some (.inr (4, [.ref (ad 6 (n.toNatClampNeg)), .ref (ad 4 (y.toNatClampNeg)), .int bu, .int am, .int (al1 ((S.1 1 (y.toNatClampNeg)) + (S.1 2 (y.toNatClampNeg)) * z)), .int ((S.1 0 0) + f), .int ((S.1 0 0) + z)])))) (ad 5 0) = some (.inl (G.2.1 4, 5, .inr (.inr (.inr (.inr (csr ad)))))) := (up_ne hne79_6).trans f5
    have f107_20 : (va_up M q79 (some (.inr (4, [.ref (ad 6 (n.toNatClampNeg)), .ref (ad 4 (y.toNatClampNeg)), .int bu, .int am, .int (al1 ((S.1 1 (y.toNatClampNeg)) + (S.1 2 (y.toNatClampNeg)) * z)), .int ((S.1 0 0) + f), .int ((S.1 0 0) + z)])))) (ad 10 0) = some (.inl (G.2.1 6, 20, .inr (.inr (.inr (.inr (dlr S ad)))))) := (up_ne hne79_7).trans f10
    have f107_21 : (va_up M q79 (some (.inr (4, [.ref (ad 6 (n.toNatClampNeg)), .ref (ad 4 (y.toNatClampNeg)), .int bu, .int am, .int (al1 ((S.1 1 (y.toNatClampNeg)) + (S.1 2 (y.toNatClampNeg)) * z)), .int ((S.1 0 0) + f), .int ((S.1 0 0) + z)])))) (ad 6 (n.toNatClampNeg)) = some (.inr (3, [.int (S.1 3 (n.toNatClampNeg)), .ref (ad 7 (n.toNatClampNeg)), .ref (ad 8 (n.toNatClampNeg))])) := (up_ne hne79_8).trans g2
    have f107_22 : (va_up M q79 (some (.inr (4, [.ref (ad 6 (n.toNatClampNeg)), .ref (ad 4 (y.toNatClampNeg)), .int bu, .int am, .int (al1 ((S.1 1 (y.toNatClampNeg)) + (S.1 2 (y.toNatClampNeg)) * z)), .int ((S.1 0 0) + f), .int ((S.1 0 0) + z)])))) (ad 7 (n.toNatClampNeg)) = some (.inl (G.2.1 5, 1002, .inr (.inr (.inr (.inr (ntr ex ad (n.toNatClampNeg))))))) := (up_ne hne79_9).trans g2_7
    have f107_23 : (va_up M q79 (some (.inr (4, [.ref (ad 6 (n.toNatClampNeg)), .ref (ad 4 (y.toNatClampNeg)), .int bu, .int am, .int (al1 ((S.1 1 (y.toNatClampNeg)) + (S.1 2 (y.toNatClampNeg)) * z)), .int ((S.1 0 0) + f), .int ((S.1 0 0) + z)])))) (ad 8 (n.toNatClampNeg)) = some (.inr (0, [.ref (ad 9 (n.toNatClampNeg))])) := (up_ne hne79_10).trans g2_8
    have f107_24 : (va_up M q79 (some (.inr (4, [.ref (ad 6 (n.toNatClampNeg)), .ref (ad 4 (y.toNatClampNeg)), .int bu, .int am, .int (al1 ((S.1 1 (y.toNatClampNeg)) + (S.1 2 (y.toNatClampNeg)) * z)), .int ((S.1 0 0) + f), .int ((S.1 0 0) + z)])))) (ad 9 (n.toNatClampNeg)) = some (.inl (G.2.1 1, 5, .inr (.inl (rw5 (S.2 1) (n.toNatClampNeg))))) := (up_ne hne79_11).trans g2_9
    have f107_25 : (va_up M q79 (some (.inr (4, [.ref (ad 6 (n.toNatClampNeg)), .ref (ad 4 (y.toNatClampNeg)), .int bu, .int am, .int (al1 ((S.1 1 (y.toNatClampNeg)) + (S.1 2 (y.toNatClampNeg)) * z)), .int ((S.1 0 0) + f), .int ((S.1 0 0) + z)])))) (ad 4 (y.toNatClampNeg)) = some (.inr (2, [.int (nI (y.toNatClampNeg)), .int (S.1 1 (y.toNatClampNeg)), .int (S.1 2 (y.toNatClampNeg))])) := (up_ne hne79_12).trans g9
    have f107_26 : (va_up M q79 (some (.inr (4, [.ref (ad 6 (n.toNatClampNeg)), .ref (ad 4 (y.toNatClampNeg)), .int bu, .int am, .int (al1 ((S.1 1 (y.toNatClampNeg)) + (S.1 2 (y.toNatClampNeg)) * z)), .int ((S.1 0 0) + f), .int ((S.1 0 0) + z)])))) q79 = some (.inr (4, [.ref (ad 6 (n.toNatClampNeg)), .ref (ad 4 (y.toNatClampNeg)), .int bu, .int am, .int (al1 ((S.1 1 (y.toNatClampNeg)) + (S.1 2 (y.toNatClampNeg)) * z)), .int ((S.1 0 0) + f), .int ((S.1 0 0) + z)])) := up_eq
    refine lv_astore (lv' := [(11, .ref q79), (10, .int (S.1 0 0)), (9, .int (S.1 5 0)), (8, .ref (ad 4 (y.toNatClampNeg))), (7, .ref (ad 6 (n.toNatClampNeg))), (0, .ref (ad 0 0)), (1, .int n), (2, .int y), (3, .int bu), (4, .int am), (5, .int f), (6, .int z)]) hx hb dX5_deal_110 hl (by decide) rfl (fun ls hl => ?_)
    refine lv_aload_n hx hb dX5_deal_112 rfl (lv_at hl 5 rfl) ?_
    refine lv_aload hx hb dX5_deal_113 (lv_at hl 4 rfl) ?_
    refine lv_aload hx hb dX5_deal_115 (lv_at hl 0 rfl) ?_
    refine k_l (va_runV (As := [.ref (ad 6 (n.toNatClampNeg)), .ref q79]) (rest := []) ⟨hx, hb, hml, hown, hts⟩ (c_X5_exposureWith l G (va_up M q79 (some (.inr (4, [.ref (ad 6 (n.toNatClampNeg)), .ref (ad 4 (y.toNatClampNeg)), .int bu, .int am, .int (al1 ((S.1 1 (y.toNatClampNeg)) + (S.1 2 (y.toNatClampNeg)) * z)), .int ((S.1 0 0) + f), .int ((S.1 0 0) + z)])))) S T th o ex ad (n.toNatClampNeg) (y.toNatClampNeg) q79 bu am (al1 ((S.1 1 (y.toNatClampNeg)) + (S.1 2 (y.toNatClampNeg)) * z)) ((S.1 0 0) + f) ((S.1 0 0) + z) (hw.fresh hn79 _) hi (ix_lt 5 b2 (by decide)) (ix_lt 4 b9 (by decide)) f107_26) (cwV 2 hts gX5_deal_X5_exposureWith rfl rfl rfl (by decide +kernel) ⟨Nat.le_of_ble_eq_true rfl, Nat.le_of_ble_eq_true rfl⟩) (preV_of hC hS hM f107_15 rfl) rfl rfl hl.1 rfl (lv_room (Nat.le_of_ble_eq_true rfl)) dX5_deal_117 ⟨Nat.le_of_ble_eq_true rfl, Nat.le_of_ble_eq_true rfl⟩) hS (fun r117 u117 H locs hp117 hM hS => ?_)
    have hM : Hm G (va_up M q79 (some (.inr (4, [.ref (ad 6 (n.toNatClampNeg)), .ref (ad 4 (y.toNatClampNeg)), .int bu, .int am, .int (al1 ((S.1 1 (y.toNatClampNeg)) + (S.1 2 (y.toNatClampNeg)) * z)), .int ((S.1 0 0) + f), .int ((S.1 0 0) + z)])))) H := hM
    have hex : r117 = exw S n y bu am z := hp117
    subst hex
    refine lv_aload hx hb dX5_deal_120 (lv_at hl 4 rfl) ?_
    refine m_getN (host := RX5) (ci := 3) (v := .int (S.1 3 (n.toNatClampNeg))) (C := RX3) (T := TX3) (N := 3) (a := (ad 6 (n.toNatClampNeg))) hx hb hts (by decide +kernel) hown hC hM f107_21 rfl 0 (by decide) (hC.w 4 rfl) (fun _ h9 => h9) rfl dX5_deal_122 ?_
    refine lv_i2l hx hb dX5_deal_125 rfl ?_
    refine W.lcmp hx hb dX5_deal_126 ?_
    refine lv_if_le (tgt := 140) hx hb dX5_deal_127 (by decide) (fun c_127 => ?_) (fun c_127 => ?_)
    · refine lv_aload_n hx hb dX5_deal_140 rfl (lv_at hl 5 rfl) ?_
      refine m_get (ci := 5) (v := .ref (ad 10 0)) (C := RX5) (T := TX5) (N := 5) (a := (ad 0 0)) hx hb hts (by decide +kernel) hown hC hM f107_15 rfl 3 (by decide) (hts (.fieldLink RX5 34 "Forwardroll" "deals" "[LForwardroll$Deal;") (by decide +kernel)) (fun _ h9 => h9) rfl dX5_deal_141 ?_
      refine lv_iload hx hb dX5_deal_144 (lv_at hl 2 rfl) ?_
      refine lv_aload hx hb dX5_deal_146 (lv_at hl 0 rfl) ?_
      refine m_astq (a := (ad 10 0)) (ci := 4) hx hb hC hM hS 6 rfl f107_20 f107_26 rfl (vin_of 20 (ixb_t c_57) (by decide)) dX5_deal_148 (fun H locs hM hS => ?_)
      have hM : Hm G (va_up (va_up M q79 (some (.inr (4, [.ref (ad 6 (n.toNatClampNeg)), .ref (ad 4 (y.toNatClampNeg)), .int bu, .int am, .int (al1 ((S.1 1 (y.toNatClampNeg)) + (S.1 2 (y.toNatClampNeg)) * z)), .int ((S.1 0 0) + f), .int ((S.1 0 0) + z)])))) (ad 10 0) (some (.inl (G.2.1 6, 20, .inr (.inr (.inr (.inr (va_up (dlr S ad) (S.1 5 0).toNatClampNeg (some q79))))))))) H := hM
      have f148_29 : (va_up (va_up M q79 (some (.inr (4, [.ref (ad 6 (n.toNatClampNeg)), .ref (ad 4 (y.toNatClampNeg)), .int bu, .int am, .int (al1 ((S.1 1 (y.toNatClampNeg)) + (S.1 2 (y.toNatClampNeg)) * z)), .int ((S.1 0 0) + f), .int ((S.1 0 0) + z)])))) (ad 10 0) (some (.inl (G.2.1 6, 20, .inr (.inr (.inr (.inr (va_up (dlr S ad) (S.1 5 0).toNatClampNeg (some q79))))))))) (ad 0 0) = some (.inr (5, [.ref (ad 1 0), .ref (ad 3 0), .ref (ad 5 0), .ref (ad 10 0), .int (S.1 5 0)])) := (up_ne (fun h9 => absurd (Eq.trans (Eq.trans (Eq.symm f107_15) (congrArg (va_up M q79 (some (.inr (4, [.ref (ad 6 (n.toNatClampNeg)), .ref (ad 4 (y.toNatClampNeg)), .int bu, .int am, .int (al1 ((S.1 1 (y.toNatClampNeg)) + (S.1 2 (y.toNatClampNeg)) * z)), .int ((S.1 0 0) + f), .int ((S.1 0 0) + z)])))) h9)) f107_20) (by simp))).trans f107_15
      have f148_30 : (va_up (va_up M q79 (some (.inr (4, [.ref (ad 6 (n.toNatClampNeg)), .ref (ad 4 (y.toNatClampNeg)), .int bu, .int am, .int (al1 ((S.1 1 (y.toNatClampNeg)) + (S.1 2 (y.toNatClampNeg)) * z)), .int ((S.1 0 0) + f), .int ((S.1 0 0) + z)])))) (ad 10 0) (some (.inl (G.2.1 6, 20, .inr (.inr (.inr (.inr (va_up (dlr S ad) (S.1 5 0).toNatClampNeg (some q79))))))))) (ad 1 0) = some (.inr (1, [.ref (ad 2 0), .int (S.1 0 0)])) := (up_ne (fun h9 => absurd (Eq.trans (Eq.trans (Eq.symm f107_16) (congrArg (va_up M q79 (some (.inr (4, [.ref (ad 6 (n.toNatClampNeg)), .ref (ad 4 (y.toNatClampNeg)), .int bu, .int am, .int (al1 ((S.1 1 (y.toNatClampNeg)) + (S.1 2 (y.toNatClampNeg)) * z)), .int ((S.1 0 0) + f), .int ((S.1 0 0) + z)])))) h9)) f107_20) (by simp))).trans f107_16
      have f148_31 : (va_up (va_up M q79 (some (.inr (4, [.ref (ad 6 (n.toNatClampNeg)), .ref (ad 4 (y.toNatClampNeg)), .int bu, .int am, .int (al1 ((S.1 1 (y.toNatClampNeg)) + (S.1 2 (y.toNatClampNeg)) * z)), .int ((S.1 0 0) + f), .int ((S.1 0 0) + z)])))) (ad 10 0) (some (.inl (G.2.1 6, 20, .inr (.inr (.inr (.inr (va_up (dlr S ad) (S.1 5 0).toNatClampNeg (some q79))))))))) (ad 2 0) = some (.inl (G.2.1 2, 1001, .inl (S.1 4))) := (up_ne (fun h9 => absurd (Eq.trans (Eq.trans (Eq.symm f107_17) (congrArg (va_up M q79 (some (.inr (4, [.ref (ad 6 (n.toNatClampNeg)), .ref (ad 4 (y.toNatClampNeg)), .int bu, .int am, .int (al1 ((S.1 1 (y.toNatClampNeg)) + (S.1 2 (y.toNatClampNeg)) * z)), .int ((S.1 0 0) + f), .int ((S.1 0 0) + z)])))) h9)) f107_20) (by simp))).trans f107_17
      have f148_32 : (va_up (va_up M q79 (some (.inr (4, [.ref (ad 6 (n.toNatClampNeg)), .ref (ad 4 (y.toNatClampNeg)), .int bu, .int am, .int (al1 ((S.1 1 (y.toNatClampNeg)) + (S.1 2 (y.toNatClampNeg)) * z)), .int ((S.1 0 0) + f), .int ((S.1 0 0) + z)])))) (ad 10 0) (some (.inl (G.2.1 6, 20, .inr (.inr (.inr (.inr (va_up (dlr S ad) (S.1 5 0).toNatClampNeg (some q79))))))))) (ad 3 0) = some (.inl (G.2.1 3, 4, .inr (.inr (.inr (.inr (crr ad)))))) := (up_ne (fun h9 => absurd (Eq.trans (Eq.trans (Eq.symm f107_18) (congrArg (va_up M q79 (some (.inr (4, [.ref (ad 6 (n.toNatClampNeg)), .ref (ad 4 (y.toNatClampNeg)), .int bu, .int am, .int (al1 ((S.1 1 (y.toNatClampNeg)) + (S.1 2 (y.toNatClampNeg)) * z)), .int ((S.1 0 0) + f), .int ((S.1 0 0) + z)])))) h9)) f107_20) (by simp))).trans f107_18
      have f148_33 : (va_up (va_up M q79 (some (.inr (4, [.ref (ad 6 (n.toNatClampNeg)), .ref (ad 4 (y.toNatClampNeg)), .int bu, .int am, .int (al1 ((S.1 1 (y.toNatClampNeg)) + (S.1 2 (y.toNatClampNeg)) * z)), .int ((S.1 0 0) + f), .int ((S.1 0 0) + z)])))) (ad 10 0) (some (.inl (G.2.1 6, 20, .inr (.inr (.inr (.inr (va_up (dlr S ad) (S.1 5 0).toNatClampNeg (some q79))))))))) (ad 5 0) = some (.inl (G.2.1 4, 5, .inr (.inr (.inr (.inr (csr ad)))))) := (up_ne (fun h9 => absurd (Eq.trans (Eq.trans (Eq.symm f107_19) (congrArg (va_up M q79 (some (.inr (4, [.ref (ad 6 (n.toNatClampNeg)), .ref (ad 4 (y.toNatClampNeg)), .int bu, .int am, .int (al1 ((S.1 1 (y.toNatClampNeg)) + (S.1 2 (y.toNatClampNeg)) * z)), .int ((S.1 0 0) + f), .int ((S.1 0 0) + z)])))) h9)) f107_20) (by simp))).trans f107_19
      have f148_34 : (va_up (va_up M q79 (some (.inr (4, [.ref (ad 6 (n.toNatClampNeg)), .ref (ad 4 (y.toNatClampNeg)), .int bu, .int am, .int (al1 ((S.1 1 (y.toNatClampNeg)) + (S.1 2 (y.toNatClampNeg)) * z)), .int ((S.1 0 0) + f), .int ((S.1 0 0) + z)])))) (ad 10 0) (some (.inl (G.2.1 6, 20, .inr (.inr (.inr (.inr (va_up (dlr S ad) (S.1 5 0).toNatClampNeg (some q79))))))))) (ad 10 0) = some (.inl (G.2.1 6, 20, .inr (.inr (.inr (.inr (va_up (dlr S ad) (S.1 5 0).toNatClampNeg (some q79))))))) := up_eq
      have f148_35 : (va_up (va_up M q79 (some (.inr (4, [.ref (ad 6 (n.toNatClampNeg)), .ref (ad 4 (y.toNatClampNeg)), .int bu, .int am, .int (al1 ((S.1 1 (y.toNatClampNeg)) + (S.1 2 (y.toNatClampNeg)) * z)), .int ((S.1 0 0) + f), .int ((S.1 0 0) + z)])))) (ad 10 0) (some (.inl (G.2.1 6, 20, .inr (.inr (.inr (.inr (va_up (dlr S ad) (S.1 5 0).toNatClampNeg (some q79))))))))) (ad 6 (n.toNatClampNeg)) = some (.inr (3, [.int (S.1 3 (n.toNatClampNeg)), .ref (ad 7 (n.toNatClampNeg)), .ref (ad 8 (n.toNatClampNeg))])) := (up_ne (fun h9 => absurd (Eq.trans (Eq.trans (Eq.symm f107_21) (congrArg (va_up M q79 (some (.inr (4, [.ref (ad 6 (n.toNatClampNeg)), .ref (ad 4 (y.toNatClampNeg)), .int bu, .int am, .int (al1 ((S.1 1 (y.toNatClampNeg)) + (S.1 2 (y.toNatClampNeg)) * z)), .int ((S.1 0 0) + f), .int ((S.1 0 0) + z)])))) h9)) f107_20) (by simp))).trans f107_21
      have f148_36 : (va_up (va_up M q79 (some (.inr (4, [.ref (ad 6 (n.toNatClampNeg)), .ref (ad 4 (y.toNatClampNeg)), .int bu, .int am, .int (al1 ((S.1 1 (y.toNatClampNeg)) + (S.1 2 (y.toNatClampNeg)) * z)), .int ((S.1 0 0) + f), .int ((S.1 0 0) + z)])))) (ad 10 0) (some (.inl (G.2.1 6, 20, .inr (.inr (.inr (.inr (va_up (dlr S ad) (S.1 5 0).toNatClampNeg (some q79))))))))) (ad 7 (n.toNatClampNeg)) = some (.inl (G.2.1 5, 1002, .inr (.inr (.inr (.inr (ntr ex ad (n.toNatClampNeg))))))) := (up_ne (fun h9 => absurd (Eq.trans (Eq.trans (Eq.symm f107_22) (congrArg (va_up M q79 (some (.inr (4, [.ref (ad 6 (n.toNatClampNeg)), .ref (ad 4 (y.toNatClampNeg)), .int bu, .int am, .int (al1 ((S.1 1 (y.toNatClampNeg)) + (S.1 2 (y.toNatClampNeg)) * z)), .int ((S.1 0 0) + f), .int ((S.1 0 0) + z)])))) h9)) f107_20) (by simp))).trans f107_22
      have f148_37 : (va_up (va_up M q79 (some (.inr (4, [.ref (ad 6 (n.toNatClampNeg)), .ref (ad 4 (y.toNatClampNeg)), .int bu, .int am, .int (al1 ((S.1 1 (y.toNatClampNeg)) + (S.1 2 (y.toNatClampNeg)) * z)), .int ((S.1 0 0) + f), .int ((S.1 0 0) + z)])))) (ad 10 0) (some (.inl (G.2.1 6, 20, .inr (.inr (.inr (.inr (va_up (dlr S ad) (S.1 5 0).toNatClampNeg (some q79))))))))) (ad 8 (n.toNatClampNeg)) = some (.inr (0, [.ref (ad 9 (n.toNatClampNeg))])) := (up_ne (fun h9 => absurd (Eq.trans (Eq.trans (Eq.symm f107_23) (congrArg (va_up M q79 (some (.inr (4, [.ref (ad 6 (n.toNatClampNeg)), .ref (ad 4 (y.toNatClampNeg)), .int bu, .int am, .int (al1 ((S.1 1 (y.toNatClampNeg)) + (S.1 2 (y.toNatClampNeg)) * z)), .int ((S.1 0 0) + f), .int ((S.1 0 0) + z)])))) h9)) f107_20) (by simp))).trans f107_23
      have f148_38 : (va_up (va_up M q79 (some (.inr (4, [.ref (ad 6 (n.toNatClampNeg)), .ref (ad 4 (y.toNatClampNeg)), .int bu, .int am, .int (al1 ((S.1 1 (y.toNatClampNeg)) + (S.1 2 (y.toNatClampNeg)) * z)), .int ((S.1 0 0) + f), .int ((S.1 0 0) + z)])))) (ad 10 0) (some (.inl (G.2.1 6, 20, .inr (.inr (.inr (.inr (va_up (dlr S ad) (S.1 5 0).toNatClampNeg (some q79))))))))) (ad 9 (n.toNatClampNeg)) = some (.inl (G.2.1 1, 5, .inr (.inl (rw5 (S.2 1) (n.toNatClampNeg))))) := (up_ne (fun h9 => absurd (Eq.trans (Eq.trans (Eq.symm f107_24) (congrArg (va_up M q79 (some (.inr (4, [.ref (ad 6 (n.toNatClampNeg)), .ref (ad 4 (y.toNatClampNeg)), .int bu, .int am, .int (al1 ((S.1 1 (y.toNatClampNeg)) + (S.1 2 (y.toNatClampNeg)) * z)), .int ((S.1 0 0) + f), .int ((S.1 0 0) + z)])))) h9)) f107_20) (by simp))).trans f107_24
      have f148_39 : (va_up (va_up M q79 (some (.inr (4, [.ref (ad 6 (n.toNatClampNeg)), .ref (ad 4 (y.toNatClampNeg)), .int bu, .int am, .int (al1 ((S.1 1 (y.toNatClampNeg)) + (S.1 2 (y.toNatClampNeg)) * z)), .int ((S.1 0 0) + f), .int ((S.1 0 0) + z)])))) (ad 10 0) (some (.inl (G.2.1 6, 20, .inr (.inr (.inr (.inr (va_up (dlr S ad) (S.1 5 0).toNatClampNeg (some q79))))))))) (ad 4 (y.toNatClampNeg)) = some (.inr (2, [.int (nI (y.toNatClampNeg)), .int (S.1 1 (y.toNatClampNeg)), .int (S.1 2 (y.toNatClampNeg))])) := (up_ne (fun h9 => absurd (Eq.trans (Eq.trans (Eq.symm f107_25) (congrArg (va_up M q79 (some (.inr (4, [.ref (ad 6 (n.toNatClampNeg)), .ref (ad 4 (y.toNatClampNeg)), .int bu, .int am, .int (al1 ((S.1 1 (y.toNatClampNeg)) + (S.1 2 (y.toNatClampNeg)) * z)), .int ((S.1 0 0) + f), .int ((S.1 0 0) + z)])))) h9)) f107_20) (by simp))).trans f107_25
      have f148_40 : (va_up (va_up M q79 (some (.inr (4, [.ref (ad 6 (n.toNatClampNeg)), .ref (ad 4 (y.toNatClampNeg)), .int bu, .int am, .int (al1 ((S.1 1 (y.toNatClampNeg)) + (S.1 2 (y.toNatClampNeg)) * z)), .int ((S.1 0 0) + f), .int ((S.1 0 0) + z)])))) (ad 10 0) (some (.inl (G.2.1 6, 20, .inr (.inr (.inr (.inr (va_up (dlr S ad) (S.1 5 0).toNatClampNeg (some q79))))))))) q79 = some (.inr (4, [.ref (ad 6 (n.toNatClampNeg)), .ref (ad 4 (y.toNatClampNeg)), .int bu, .int am, .int (al1 ((S.1 1 (y.toNatClampNeg)) + (S.1 2 (y.toNatClampNeg)) * z)), .int ((S.1 0 0) + f), .int ((S.1 0 0) + z)])) := (up_ne (fun h9 => absurd (Eq.trans (Eq.trans (Eq.symm f107_26) (congrArg (va_up M q79 (some (.inr (4, [.ref (ad 6 (n.toNatClampNeg)), .ref (ad 4 (y.toNatClampNeg)), .int bu, .int am, .int (al1 ((S.1 1 (y.toNatClampNeg)) + (S.1 2 (y.toNatClampNeg)) * z)), .int ((S.1 0 0) + f), .int ((S.1 0 0) + z)])))) h9)) f107_20) (by simp))).trans f107_26
      refine lv_aload_n hx hb dX5_deal_149 rfl (lv_at hl 5 rfl) ?_
      refine lv_iload hx hb dX5_deal_150 (lv_at hl 2 rfl) ?_
      refine lv_iconst (v := 1) hx hb dX5_deal_152 (by decide) ?_
      refine lv_iadd hx hb dX5_deal_153 ?_
      refine m_put (host := "") (ci := 5) (v := .int ((S.1 5 0) + 1)) (ty := .int) (C := RX5) (T := TX5) (N := 5) (a := (ad 0 0)) hx hb hts (by decide +kernel) tyX5 tyX5_ok nmX5 hown hC hM hS f148_29 rfl 4 (by decide) (hts (.fieldLink RX5 81 "Forwardroll" "dealCount" "I") (by decide +kernel)) (fun _ h9 => h9) rfl (by decide +kernel) rfl rfl (Nat.le_of_ble_eq_true rfl) dX5_deal_154 (fun H locs hM hS => ?_)
      have hM : Hm G (va_up (va_up (va_up M q79 (some (.inr (4, [.ref (ad 6 (n.toNatClampNeg)), .ref (ad 4 (y.toNatClampNeg)), .int bu, .int am, .int (al1 ((S.1 1 (y.toNatClampNeg)) + (S.1 2 (y.toNatClampNeg)) * z)), .int ((S.1 0 0) + f), .int ((S.1 0 0) + z)])))) (ad 10 0) (some (.inl (G.2.1 6, 20, .inr (.inr (.inr (.inr (va_up (dlr S ad) (S.1 5 0).toNatClampNeg (some q79))))))))) (ad 0 0) (some (.inr (5, [.ref (ad 1 0), .ref (ad 3 0), .ref (ad 5 0), .ref (ad 10 0), .int ((S.1 5 0) + 1)])))) H := hM
      have f154_42 : (va_up (va_up (va_up M q79 (some (.inr (4, [.ref (ad 6 (n.toNatClampNeg)), .ref (ad 4 (y.toNatClampNeg)), .int bu, .int am, .int (al1 ((S.1 1 (y.toNatClampNeg)) + (S.1 2 (y.toNatClampNeg)) * z)), .int ((S.1 0 0) + f), .int ((S.1 0 0) + z)])))) (ad 10 0) (some (.inl (G.2.1 6, 20, .inr (.inr (.inr (.inr (va_up (dlr S ad) (S.1 5 0).toNatClampNeg (some q79))))))))) (ad 0 0) (some (.inr (5, [.ref (ad 1 0), .ref (ad 3 0), .ref (ad 5 0), .ref (ad 10 0), .int ((S.1 5 0) + 1)])))) (ad 0 0) = some (.inr (5, [.ref (ad 1 0), .ref (ad 3 0), .ref (ad 5 0), .ref (ad 10 0), .int ((S.1 5 0) + 1)])) := up_eq
      have f154_43 : (va_up (va_up (va_up M q79 (some (.inr (4, [.ref (ad 6 (n.toNatClampNeg)), .ref (ad 4 (y.toNatClampNeg)), .int bu, .int am, .int (al1 ((S.1 1 (y.toNatClampNeg)) + (S.1 2 (y.toNatClampNeg)) * z)), .int ((S.1 0 0) + f), .int ((S.1 0 0) + z)])))) (ad 10 0) (some (.inl (G.2.1 6, 20, .inr (.inr (.inr (.inr (va_up (dlr S ad) (S.1 5 0).toNatClampNeg (some q79))))))))) (ad 0 0) (some (.inr (5, [.ref (ad 1 0), .ref (ad 3 0), .ref (ad 5 0), .ref (ad 10 0), .int ((S.1 5 0) + 1)])))) (ad 1 0) = some (.inr (1, [.ref (ad 2 0), .int (S.1 0 0)])) := (up_ne (fun h9 => absurd (Eq.trans (Eq.trans (Eq.symm f148_30) (congrArg (va_up (va_up M q79 (some (.inr (4, [.ref (ad 6 (n.toNatClampNeg)), .ref (ad 4 (y.toNatClampNeg)), .int bu, .int am, .int (al1 ((S.1 1 (y.toNatClampNeg)) + (S.1 2 (y.toNatClampNeg)) * z)), .int ((S.1 0 0) + f), .int ((S.1 0 0) + z)])))) (ad 10 0) (some (.inl (G.2.1 6, 20, .inr (.inr (.inr (.inr (va_up (dlr S ad) (S.1 5 0).toNatClampNeg (some q79))))))))) h9)) f148_29) (by simp))).trans f148_30
      have f154_44 : (va_up (va_up (va_up M q79 (some (.inr (4, [.ref (ad 6 (n.toNatClampNeg)), .ref (ad 4 (y.toNatClampNeg)), .int bu, .int am, .int (al1 ((S.1 1 (y.toNatClampNeg)) + (S.1 2 (y.toNatClampNeg)) * z)), .int ((S.1 0 0) + f), .int ((S.1 0 0) + z)])))) (ad 10 0) (some (.inl (G.2.1 6, 20, .inr (.inr (.inr (.inr (va_up (dlr S ad) (S.1 5 0).toNatClampNeg (some q79))))))))) (ad 0 0) (some (.inr (5, [.ref (ad 1 0), .ref (ad 3 0), .ref (ad 5 0), .ref (ad 10 0), .int ((S.1 5 0) + 1)])))) (ad 2 0) = some (.inl (G.2.1 2, 1001, .inl (S.1 4))) := (up_ne (fun h9 => absurd (Eq.trans (Eq.trans (Eq.symm f148_31) (congrArg (va_up (va_up M q79 (some (.inr (4, [.ref (ad 6 (n.toNatClampNeg)), .ref (ad 4 (y.toNatClampNeg)), .int bu, .int am, .int (al1 ((S.1 1 (y.toNatClampNeg)) + (S.1 2 (y.toNatClampNeg)) * z)), .int ((S.1 0 0) + f), .int ((S.1 0 0) + z)])))) (ad 10 0) (some (.inl (G.2.1 6, 20, .inr (.inr (.inr (.inr (va_up (dlr S ad) (S.1 5 0).toNatClampNeg (some q79))))))))) h9)) f148_29) (by simp))).trans f148_31
      have f154_45 : (va_up (va_up (va_up M q79 (some (.inr (4, [.ref (ad 6 (n.toNatClampNeg)), .ref (ad 4 (y.toNatClampNeg)), .int bu, .int am, .int (al1 ((S.1 1 (y.toNatClampNeg)) + (S.1 2 (y.toNatClampNeg)) * z)), .int ((S.1 0 0) + f), .int ((S.1 0 0) + z)])))) (ad 10 0) (some (.inl (G.2.1 6, 20, .inr (.inr (.inr (.inr (va_up (dlr S ad) (S.1 5 0).toNatClampNeg (some q79))))))))) (ad 0 0) (some (.inr (5, [.ref (ad 1 0), .ref (ad 3 0), .ref (ad 5 0), .ref (ad 10 0), .int ((S.1 5 0) + 1)])))) (ad 3 0) = some (.inl (G.2.1 3, 4, .inr (.inr (.inr (.inr (crr ad)))))) := (up_ne (fun h9 => absurd (Eq.trans (Eq.trans (Eq.symm f148_32) (congrArg (va_up (va_up M q79 (some (.inr (4, [.ref (ad 6 (n.toNatClampNeg)), .ref (ad 4 (y.toNatClampNeg)), .int bu, .int am, .int (al1 ((S.1 1 (y.toNatClampNeg)) + (S.1 2 (y.toNatClampNeg)) * z)), .int ((S.1 0 0) + f), .int ((S.1 0 0) + z)])))) (ad 10 0) (some (.inl (G.2.1 6, 20, .inr (.inr (.inr (.inr (va_up (dlr S ad) (S.1 5 0).toNatClampNeg (some q79))))))))) h9)) f148_29) (by simp))).trans f148_32
      have f154_46 : (va_up (va_up (va_up M q79 (some (.inr (4, [.ref (ad 6 (n.toNatClampNeg)), .ref (ad 4 (y.toNatClampNeg)), .int bu, .int am, .int (al1 ((S.1 1 (y.toNatClampNeg)) + (S.1 2 (y.toNatClampNeg)) * z)), .int ((S.1 0 0) + f), .int ((S.1 0 0) + z)])))) (ad 10 0) (some (.inl (G.2.1 6, 20, .inr (.inr (.inr (.inr (va_up (dlr S ad) (S.1 5 0).toNatClampNeg (some q79))))))))) (ad 0 0) (some (.inr (5, [.ref (ad 1 0), .ref (ad 3 0), .ref (ad 5 0), .ref (ad 10 0), .int ((S.1 5 0) + 1)])))) (ad 5 0) = some (.inl (G.2.1 4, 5, .inr (.inr (.inr (.inr (csr ad)))))) := (up_ne (fun h9 => absurd (Eq.trans (Eq.trans (Eq.symm f148_33) (congrArg (va_up (va_up M q79 (some (.inr (4, [.ref (ad 6 (n.toNatClampNeg)), .ref (ad 4 (y.toNatClampNeg)), .int bu, .int am, .int (al1 ((S.1 1 (y.toNatClampNeg)) + (S.1 2 (y.toNatClampNeg)) * z)), .int ((S.1 0 0) + f), .int ((S.1 0 0) + z)])))) (ad 10 0) (some (.inl (G.2.1 6, 20, .inr (.inr (.inr (.inr (va_up (dlr S ad) (S.1 5 0).toNatClampNeg (some q79))))))))) h9)) f148_29) (by simp))).trans f148_33
      have f154_47 : (va_up (va_up (va_up M q79 (some (.inr (4, [.ref (ad 6 (n.toNatClampNeg)), .ref (ad 4 (y.toNatClampNeg)), .int bu, .int am, .int (al1 ((S.1 1 (y.toNatClampNeg)) + (S.1 2 (y.toNatClampNeg)) * z)), .int ((S.1 0 0) + f), .int ((S.1 0 0) + z)])))) (ad 10 0) (some (.inl (G.2.1 6, 20, .inr (.inr (.inr (.inr (va_up (dlr S ad) (S.1 5 0).toNatClampNeg (some q79))))))))) (ad 0 0) (some (.inr (5, [.ref (ad 1 0), .ref (ad 3 0), .ref (ad 5 0), .ref (ad 10 0), .int ((S.1 5 0) + 1)])))) (ad 10 0) = some (.inl (G.2.1 6, 20, .inr (.inr (.inr (.inr (va_up (dlr S ad) (S.1 5 0).toNatClampNeg (some q79))))))) := (up_ne (fun h9 => absurd (Eq.trans (Eq.trans (Eq.symm f148_34) (congrArg (va_up (va_up M q79 (some (.inr (4, [.ref (ad 6 (n.toNatClampNeg)), .ref (ad 4 (y.toNatClampNeg)), .int bu, .int am, .int (al1 ((S.1 1 (y.toNatClampNeg)) + (S.1 2 (y.toNatClampNeg)) * z)), .int ((S.1 0 0) + f), .int ((S.1 0 0) + z)])))) (ad 10 0) (some (.inl (G.2.1 6, 20, .inr (.inr (.inr (.inr (va_up (dlr S ad) (S.1 5 0).toNatClampNeg (some q79))))))))) h9)) f148_29) (by simp))).trans f148_34
      have f154_48 : (va_up (va_up (va_up M q79 (some (.inr (4, [.ref (ad 6 (n.toNatClampNeg)), .ref (ad 4 (y.toNatClampNeg)), .int bu, .int am, .int (al1 ((S.1 1 (y.toNatClampNeg)) + (S.1 2 (y.toNatClampNeg)) * z)), .int ((S.1 0 0) + f), .int ((S.1 0 0) + z)])))) (ad 10 0) (some (.inl (G.2.1 6, 20, .inr (.inr (.inr (.inr (va_up (dlr S ad) (S.1 5 0).toNatClampNeg (some q79))))))))) (ad 0 0) (some (.inr (5, [.ref (ad 1 0), .ref (ad 3 0), .ref (ad 5 0), .ref (ad 10 0), .int ((S.1 5 0) + 1)])))) (ad 6 (n.toNatClampNeg)) = some (.inr (3, [.int (S.1 3 (n.toNatClampNeg)), .ref (ad 7 (n.toNatClampNeg)), .ref (ad 8 (n.toNatClampNeg))])) := (up_ne (fun h9 => absurd (Eq.trans (Eq.trans (Eq.symm f148_35) (congrArg (va_up (va_up M q79 (some (.inr (4, [.ref (ad 6 (n.toNatClampNeg)), .ref (ad 4 (y.toNatClampNeg)), .int bu, .int am, .int (al1 ((S.1 1 (y.toNatClampNeg)) + (S.1 2 (y.toNatClampNeg)) * z)), .int ((S.1 0 0) + f), .int ((S.1 0 0) + z)])))) (ad 10 0) (some (.inl (G.2.1 6, 20, .inr (.inr (.inr (.inr (va_up (dlr S ad) (S.1 5 0).toNatClampNeg (some q79))))))))) h9)) f148_29) (by simp))).trans f148_35
      have f154_49 : (va_up (va_up (va_up M q79 (some (.inr (4, [.ref (ad 6 (n.toNatClampNeg)), .ref (ad 4 (y.toNatClampNeg)), .int bu, .int am, .int (al1 ((S.1 1 (y.toNatClampNeg)) + (S.1 2 (y.toNatClampNeg)) * z)), .int ((S.1 0 0) + f), .int ((S.1 0 0) + z)])))) (ad 10 0) (some (.inl (G.2.1 6, 20, .inr (.inr (.inr (.inr (va_up (dlr S ad) (S.1 5 0).toNatClampNeg (some q79))))))))) (ad 0 0) (some (.inr (5, [.ref (ad 1 0), .ref (ad 3 0), .ref (ad 5 0), .ref (ad 10 0), .int ((S.1 5 0) + 1)])))) (ad 7 (n.toNatClampNeg)) = some (.inl (G.2.1 5, 1002, .inr (.inr (.inr (.inr (ntr ex ad (n.toNatClampNeg))))))) := (up_ne (fun h9 => absurd (Eq.trans (Eq.trans (Eq.symm f148_36) (congrArg (va_up (va_up M q79 (some (.inr (4, [.ref (ad 6 (n.toNatClampNeg)), .ref (ad 4 (y.toNatClampNeg)), .int bu, .int am, .int (al1 ((S.1 1 (y.toNatClampNeg)) + (S.1 2 (y.toNatClampNeg)) * z)), .int ((S.1 0 0) + f), .int ((S.1 0 0) + z)])))) (ad 10 0) (some (.inl (G.2.1 6, 20, .inr (.inr (.inr (.inr (va_up (dlr S ad) (S.1 5 0).toNatClampNeg (some q79))))))))) h9)) f148_29) (by simp))).trans f148_36
      have f154_50 : (va_up (va_up (va_up M q79 (some (.inr (4, [.ref (ad 6 (n.toNatClampNeg)), .ref (ad 4 (y.toNatClampNeg)), .int bu, .int am, .int (al1 ((S.1 1 (y.toNatClampNeg)) + (S.1 2 (y.toNatClampNeg)) * z)), .int ((S.1 0 0) + f), .int ((S.1 0 0) + z)])))) (ad 10 0) (some (.inl (G.2.1 6, 20, .inr (.inr (.inr (.inr (va_up (dlr S ad) (S.1 5 0).toNatClampNeg (some q79))))))))) (ad 0 0) (some (.inr (5, [.ref (ad 1 0), .ref (ad 3 0), .ref (ad 5 0), .ref (ad 10 0), .int ((S.1 5 0) + 1)])))) (ad 8 (n.toNatClampNeg)) = some (.inr (0, [.ref (ad 9 (n.toNatClampNeg))])) := (up_ne (fun h9 => absurd (Eq.trans (Eq.trans (Eq.symm f148_37) (congrArg (va_up (va_up M q79 (some (.inr (4, [.ref (ad 6 (n.toNatClampNeg)), .ref (ad 4 (y.toNatClampNeg)), .int bu, .int am, .int (al1 ((S.1 1 (y.toNatClampNeg)) + (S.1 2 (y.toNatClampNeg)) * z)), .int ((S.1 0 0) + f), .int ((S.1 0 0) + z)])))) (ad 10 0) (some (.inl (G.2.1 6, 20, .inr (.inr (.inr (.inr (va_up (dlr S ad) (S.1 5 0).toNatClampNeg (some q79))))))))) h9)) f148_29) (by simp))).trans f148_37
      have f154_51 : (va_up (va_up (va_up M q79 (some (.inr (4, [.ref (ad 6 (n.toNatClampNeg)), .ref (ad 4 (y.toNatClampNeg)), .int bu, .int am, .int (al1 ((S.1 1 (y.toNatClampNeg)) + (S.1 2 (y.toNatClampNeg)) * z)), .int ((S.1 0 0) + f), .int ((S.1 0 0) + z)])))) (ad 10 0) (some (.inl (G.2.1 6, 20, .inr (.inr (.inr (.inr (va_up (dlr S ad) (S.1 5 0).toNatClampNeg (some q79))))))))) (ad 0 0) (some (.inr (5, [.ref (ad 1 0), .ref (ad 3 0), .ref (ad 5 0), .ref (ad 10 0), .int ((S.1 5 0) + 1)])))) (ad 9 (n.toNatClampNeg)) = some (.inl (G.2.1 1, 5, .inr (.inl (rw5 (S.2 1) (n.toNatClampNeg))))) := (up_ne (fun h9 => absurd (Eq.trans (Eq.trans (Eq.symm f148_38) (congrArg (va_up (va_up M q79 (some (.inr (4, [.ref (ad 6 (n.toNatClampNeg)), .ref (ad 4 (y.toNatClampNeg)), .int bu, .int am, .int (al1 ((S.1 1 (y.toNatClampNeg)) + (S.1 2 (y.toNatClampNeg)) * z)), .int ((S.1 0 0) + f), .int ((S.1 0 0) + z)])))) (ad 10 0) (some (.inl (G.2.1 6, 20, .inr (.inr (.inr (.inr (va_up (dlr S ad) (S.1 5 0).toNatClampNeg (some q79))))))))) h9)) f148_29) (by simp))).trans f148_38
      have f154_52 : (va_up (va_up (va_up M q79 (some (.inr (4, [.ref (ad 6 (n.toNatClampNeg)), .ref (ad 4 (y.toNatClampNeg)), .int bu, .int am, .int (al1 ((S.1 1 (y.toNatClampNeg)) + (S.1 2 (y.toNatClampNeg)) * z)), .int ((S.1 0 0) + f), .int ((S.1 0 0) + z)])))) (ad 10 0) (some (.inl (G.2.1 6, 20, .inr (.inr (.inr (.inr (va_up (dlr S ad) (S.1 5 0).toNatClampNeg (some q79))))))))) (ad 0 0) (some (.inr (5, [.ref (ad 1 0), .ref (ad 3 0), .ref (ad 5 0), .ref (ad 10 0), .int ((S.1 5 0) + 1)])))) (ad 4 (y.toNatClampNeg)) = some (.inr (2, [.int (nI (y.toNatClampNeg)), .int (S.1 1 (y.toNatClampNeg)), .int (S.1 2 (y.toNatClampNeg))])) := (up_ne (fun h9 => absurd (Eq.trans (Eq.trans (Eq.symm f148_39) (congrArg (va_up (va_up M q79 (some (.inr (4, [.ref (ad 6 (n.toNatClampNeg)), .ref (ad 4 (y.toNatClampNeg)), .int bu, .int am, .int (al1 ((S.1 1 (y.toNatClampNeg)) + (S.1 2 (y.toNatClampNeg)) * z)), .int ((S.1 0 0) + f), .int ((S.1 0 0) + z)])))) (ad 10 0) (some (.inl (G.2.1 6, 20, .inr (.inr (.inr (.inr (va_up (dlr S ad) (S.1 5 0).toNatClampNeg (some q79))))))))) h9)) f148_29) (by simp))).trans f148_39
      have f154_53 : (va_up (va_up (va_up M q79 (some (.inr (4, [.ref (ad 6 (n.toNatClampNeg)), .ref (ad 4 (y.toNatClampNeg)), .int bu, .int am, .int (al1 ((S.1 1 (y.toNatClampNeg)) + (S.1 2 (y.toNatClampNeg)) * z)), .int ((S.1 0 0) + f), .int ((S.1 0 0) + z)])))) (ad 10 0) (some (.inl (G.2.1 6, 20, .inr (.inr (.inr (.inr (va_up (dlr S ad) (S.1 5 0).toNatClampNeg (some q79))))))))) (ad 0 0) (some (.inr (5, [.ref (ad 1 0), .ref (ad 3 0), .ref (ad 5 0), .ref (ad 10 0), .int ((S.1 5 0) + 1)])))) q79 = some (.inr (4, [.ref (ad 6 (n.toNatClampNeg)), .ref (ad 4 (y.toNatClampNeg)), .int bu, .int am, .int (al1 ((S.1 1 (y.toNatClampNeg)) + (S.1 2 (y.toNatClampNeg)) * z)), .int ((S.1 0 0) + f), .int ((S.1 0 0) + z)])) := (up_ne (fun h9 => absurd (Eq.trans (Eq.trans (Eq.symm f148_40) (congrArg (va_up (va_up M q79 (some (.inr (4, [.ref (ad 6 (n.toNatClampNeg)), .ref (ad 4 (y.toNatClampNeg)), .int bu, .int am, .int (al1 ((S.1 1 (y.toNatClampNeg)) + (S.1 2 (y.toNatClampNeg)) * z)), .int ((S.1 0 0) + f), .int ((S.1 0 0) + z)])))) (ad 10 0) (some (.inl (G.2.1 6, 20, .inr (.inr (.inr (.inr (va_up (dlr S ad) (S.1 5 0).toNatClampNeg (some q79))))))))) h9)) f148_29) (by simp))).trans f148_40
      refine lv_iload hx hb dX5_deal_157 (lv_at hl 2 rfl) ?_
      exact vx_ret (r_i hx hb hr hlocks hS (v := (S.1 5 0)) _ ⟨⟨b2, b9⟩, ⟨hp19, hp28, hp38⟩, (ixb_t c_57).2, ge_of_cmp c_127, rfl, q79, w_dealV hw (nd_succ hi (ixb_t c_57).2) hn79⟩ hM (Nat.le_of_ble_eq_true rfl) (Nat.le_of_ble_eq_true rfl) dX5_deal_159)
    · have hM : Hm G M H := hM.mono (fun a9 e9 h9 => by rw [up_ne (fun z9 => by rw [z9, hn79] at h9; cases h9)]; exact h9)
      exact m_throw (text := "the exposure would be greater than the limit") (is := 97) hx hb hnt (hml.trans hl.1.symm) hlocks hown ht hC hS hM (hts (.classLink RX5 57 IS) (by decide +kernel)) (hts (.initialized IS) (by decide +kernel)) (by decide) (fun w h => hts w (List.mem_cons_of_mem _ (List.mem_append_left _ (List.mem_append_left _ (List.mem_append_right _ h))))) tn_61 (by decide +kernel) tg_61 dX5_deal_130 dX5_deal_133 dX5_deal_134 dX5_deal_136 dX5_deal_139 (Nat.le_of_ble_eq_true rfl) (Nat.le_of_ble_eq_true rfl) (Nat.le_of_ble_eq_true rfl) (Nat.le_of_ble_eq_true rfl) (Nat.le_of_ble_eq_true rfl) (Nat.le_of_ble_eq_true rfl) (Or.inr (Or.inr ⟨rfl, ⟨b2, b9⟩, ⟨hp19, hp28, hp38⟩, Or.inr (lt_of_cmp c_127)⟩))
  · exact m_throw (text := "there have been as many deals as there can be") (is := 88) hx hb hnt (hml.trans hl.1.symm) hlocks hown ht hC hS hM (hts (.classLink RX5 57 IS) (by decide +kernel)) (hts (.initialized IS) (by decide +kernel)) (by decide) (fun w h => hts w (List.mem_cons_of_mem _ (List.mem_append_left _ (List.mem_append_left _ (List.mem_append_right _ h))))) tn_61 (by decide +kernel) tg_61 dX5_deal_60 dX5_deal_63 dX5_deal_64 dX5_deal_66 dX5_deal_69 (Nat.le_of_ble_eq_true rfl) (Nat.le_of_ble_eq_true rfl) (Nat.le_of_ble_eq_true rfl) (Nat.le_of_ble_eq_true rfl) (Nat.le_of_ble_eq_true rfl) (Nat.le_of_ble_eq_true rfl) (Or.inr (Or.inr ⟨rfl, ⟨b2, b9⟩, ⟨hp19, hp28, hp38⟩, Or.inl (fun q9 => ixb_f c_57 ⟨nd_nn hi, q9⟩)⟩))
