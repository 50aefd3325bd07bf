/-- what a booking makes of the numbers -/
def bk (S : Sd) (c k d : Nat) (x : Int64) : Sd := (S.1, u2 S.2 0 (5 * (5 * d + c) + k) (S.2 0 (5 * (5 * d + c) + k) + x))
theorem rw5_s {f : Nat → Nat → Int64} {x k : Nat} {v : Int64} (hk : k < 5) : rw5 (u2 f 0 (5 * x + k) v 0) x = vp_updL (rw5 (f 0) x) k v := by
  funext m
  show (if m < 5 then u2 f 0 (5 * x + k) v 0 (5 * x + m) else 0) = (if m = k then v else (if m < 5 then f 0 (5 * x + m) else 0))
  by_cases h1 : m = k
  · subst h1
    rw [if_pos hk, if_pos rfl, u2_s]
  · rw [if_neg h1]
    by_cases h2 : m < 5
    · rw [if_pos h2, if_pos h2, u2_n (fun z => h1 (by omega))]
    · rw [if_neg h2, if_neg h2]
theorem rw5_n {f : Nat → Nat → Int64} {x y k : Nat} {v : Int64} (hk : k < 5) (h : ¬ y = x) : rw5 (u2 f 0 (5 * x + k) v 0) y = rw5 (f 0) y := by
  funext m
  unfold rw5
  by_cases h2 : m < 5
  · rw [if_pos h2, if_pos h2, u2_n (fun z => h (by omega))]
  · rw [if_neg h2, if_neg h2]
set_option maxHeartbeats 1000000 in
theorem w_book {G : Gx} {S T : Sd} {th : Int32} {o : Int64} {ex : Nat → Option (Nat × Nat)} {ad : Nat → Nat → Nat} {M : Mp} (h : WA G S T th o ex ad M) (hx : Ix S ex) {c k d : Nat} (hc : c < 5) (hk : k < 5) (hd : d < 1002) (x : Int64) (u : Option (Nat × Nat))
    (hu : bkP M (ntr ex ad c) d u) :
    ∃ ex', WA G (bk S c k d x) T th o ex' ad (bkM G M (ntr ex ad c) (ad 7 c) d k x (adr ex ad 13 (5 * d + c)) (rw5 (S.2 0) (5 * d + c)) u) ∧ Ix (bk S c k d x) ex' := by
  have e5 : rw5 (S.2 0) (5 * d + c) k = S.2 0 (5 * (5 * d + c) + k) := if_pos hk
  cases u with
  | none =>
    have hu : (ntr ex ad c d).isSome = true := hu
    obtain ⟨x9, hx9⟩ := Option.isSome_iff_exists.mp hu
    obtain ⟨q, hq, -⟩ := (show ∃ q, ex (5 * d + c) = some q ∧ True from by
      unfold ntr at hx9
      cases h1 : ex (5 * d + c) with
      | none => rw [h1] at hx9; cases hx9
      | some q => exact ⟨q, rfl, trivial⟩)
    refine ⟨ex, ?_, fun y hy m hm => ?_, fun y q2 hy => hx.2 y q2 hy⟩
    · refine h.up 13 (5 * d + c) (e0 := _) (ct13 hq) (fun k2 i => ?_)
      by_cases hk2 : k2 = 13 ∧ i = 5 * d + c
      · obtain ⟨rfl, rfl⟩ := hk2
        rw [if_pos ⟨rfl, rfl⟩]
        show (ex (5 * d + c)).map (fun _ => Sum.inl (G.2.1 1, 5, Sum.inr (Sum.inl (rw5 (u2 S.2 0 (5 * (5 * d + c) + k) _ 0) (5 * d + c))))) = _
        rw [hq, rw5_s hk, e5]
        rfl
      · rw [if_neg hk2]
        match k2, hk2 with
        | 13, hk2 =>
          show (ex i).map (fun _ => Sum.inl (G.2.1 1, 5, Sum.inr (Sum.inl (rw5 (u2 S.2 0 (5 * (5 * d + c) + k) _ 0) i)))) = _
          rw [rw5_n hk (fun z => hk2 ⟨rfl, z⟩)]
          rfl
        | 0, _ => rfl
        | 1, _ => rfl
        | 2, _ => rfl
        | 3, _ => rfl
        | 4, _ => rfl
        | 5, _ => rfl
        | 6, _ => rfl
        | 7, _ => rfl
        | 8, _ => rfl
        | 9, _ => rfl
        | 10, _ => rfl
        | 11, _ => rfl
        | 12, _ => rfl
        | 14, _ => rfl
        | 15, _ => rfl
        | 16, _ => rfl
        | 17, _ => rfl
        | 18, _ => rfl
        | 19, _ => rfl
        | 20, _ => rfl
        | 21, _ => rfl
        | 22, _ => rfl
        | 23, _ => rfl
        | 24, _ => rfl
        | 25, _ => rfl
        | 26, _ => rfl
        | 27, _ => rfl
        | 28, _ => rfl
        | k + 29, _ => rfl
    · show u2 S.2 0 (5 * (5 * d + c) + k) _ 0 (5 * y + m) = 0
      rw [u2_n]
      · exact hx.1 y hy m hm
      · intro z
        have : y = 5 * d + c := by omega
        rw [this, hq] at hy
        cases hy
  | some u =>
    obtain ⟨q, qb⟩ := u
    obtain ⟨h1, h2, h3, h4⟩ := hu
    have hn : ex (5 * d + c) = none := by
      unfold ntr at h1
      cases h9 : ex (5 * d + c) with
      | none => rfl
      | some q9 => rw [h9] at h1; cases h1
    have hz : ∀ m, m < 5 → S.2 0 (5 * (5 * d + c) + m) = 0 := hx.1 _ hn
    have live : ∀ k2 i e, ct G.2.1 S T th o ex ad k2 i = some e → adr ex ad k2 i ≠ q ∧ adr ex ad k2 i ≠ qb := by
      intro k2 i e he
      have hm := h.1 k2 i e he
      exact ⟨fun z => (by rw [z, h2] at hm; cases hm), fun z => (by rw [z, h3] at hm; cases hm)⟩
    obtain ⟨ex', hex⟩ : ∃ ex' : Nat → Option (Nat × Nat), ex' = va_up ex (5 * d + c) (some (q, qb)) := ⟨_, rfl⟩
    have hxs : ex' (5 * d + c) = some (q, qb) := by rw [hex]; simp [va_up]
    have hxn : ∀ i, ¬ i = 5 * d + c → ex' i = ex i := fun i hi => by rw [hex]; simp [va_up, hi]
    have hrow : vp_updL (fun _ => 0) k (0 + x) = rw5 ((bk S c k d x).2 0) (5 * d + c) := by
      show _ = rw5 (u2 S.2 0 (5 * (5 * d + c) + k) (S.2 0 (5 * (5 * d + c) + k) + x) 0) (5 * d + c)
      rw [rw5_s hk, hz k hk]
      funext m
      unfold vp_updL rw5
      by_cases hm : m = k
      · rw [if_pos hm, if_pos hm]
      · rw [if_neg hm, if_neg hm]
        by_cases hm5 : m < 5
        · rw [if_pos hm5, hz m hm5]
        · rw [if_neg hm5]
    have hntr : ntr ex' ad c = va_up (ntr ex ad c) d (some q) := by
      funext y
      unfold ntr va_up
      by_cases hy : y = d
      · subst hy
        rw [if_pos rfl, hxs]
        rfl
      · rw [if_neg hy, hxn _ (by omega)]
    have hntn : ∀ c2, c2 < 5 → ¬ c2 = c → ntr ex' ad c2 = ntr ex ad c2 := by
      intro c2 hc2 hne
      funext y
      unfold ntr
      rw [hxn _ (by omega)]
    have aN : ∀ k2 i e, ct G.2.1 S T th o ex ad k2 i = some e → adr ex' ad k2 i = adr ex ad k2 i := by
      intro k2 i e he
      match k2, he with
      | 12, he =>
        have hi : ¬ i = 5 * d + c := fun z => by subst z; have he : (ex (5 * d + c)).map _ = _ := he; rw [hn] at he; cases he
        show ((ex' i).getD (0, 0)).1 = ((ex i).getD (0, 0)).1
        rw [hxn i hi]
      | 13, he =>
        have hi : ¬ i = 5 * d + c := fun z => by subst z; have he : (ex (5 * d + c)).map _ = _ := he; rw [hn] at he; cases he
        show ((ex' i).getD (0, 0)).2 = ((ex i).getD (0, 0)).2
        rw [hxn i hi]
      | 0, _ => rfl
      | 1, _ => rfl
      | 2, _ => rfl
      | 3, _ => rfl
      | 4, _ => rfl
      | 5, _ => rfl
      | 6, _ => rfl
      | 7, _ => rfl
      | 8, _ => rfl
      | 9, _ => rfl
      | 10, _ => rfl
      | 11, _ => rfl
      | 14, _ => rfl
      | 15, _ => rfl
      | 16, _ => rfl
      | 17, _ => rfl
      | 18, _ => rfl
      | 19, _ => rfl
      | 20, _ => rfl
      | 21, _ => rfl
      | 22, _ => rfl
      | 23, _ => rfl
      | 24, _ => rfl
      | 25, _ => rfl
      | 26, _ => rfl
      | 27, _ => rfl
      | 28, _ => rfl
      | k + 29, he => rfl
    -- every live role of the new world: the two new ones, the row of references, or an old one as it was
    have cls : ∀ k2 i e, ct G.2.1 (bk S c k d x) T th o ex' ad k2 i = some e → (k2 = 12 ∧ i = 5 * d + c ∧ e = .inr (0, [.ref qb])) ∨ (k2 = 13 ∧ i = 5 * d + c ∧ e = .inl (G.2.1 1, 5, .inr (.inl (rw5 ((bk S c k d x).2 0) (5 * d + c))))) ∨ (k2 = 7 ∧ i = c ∧ e = .inl (G.2.1 5, 1002, .inr (.inr (.inr (.inr (ntr ex' ad c)))))) ∨ (¬ (k2 = 7 ∧ i = c) ∧ ct G.2.1 S T th o ex ad k2 i = some e) := by
      intro k2 i e he
      match k2, he with
      | 7, he =>
        by_cases hi : i = c
        · subst hi
          have he : (if i < 5 then some (Sum.inl (G.2.1 5, 1002, Sum.inr (Sum.inr (Sum.inr (Sum.inr (ntr ex' ad i)))))) else none) = some e := he
          rw [if_pos hc] at he
          exact Or.inr (Or.inr (Or.inl ⟨rfl, rfl, (Option.some.inj he).symm⟩))
        · refine Or.inr (Or.inr (Or.inr ⟨fun z => hi z.2, ?_⟩))
          have he : (if i < 5 then some (Sum.inl (G.2.1 5, 1002, Sum.inr (Sum.inr (Sum.inr (Sum.inr (ntr ex' ad i)))))) else none) = some e := he
          by_cases h5 : i < 5
          · rw [hntn i h5 hi] at he
            exact he
          · rw [if_neg h5] at he
            cases he
      | 12, he =>
        by_cases hi : i = 5 * d + c
        · subst hi
          have he : (ex' (5 * d + c)).map (fun q => Sum.inr (0, [Value.ref q.2])) = some e := he
          rw [hxs] at he
          exact Or.inl ⟨rfl, rfl, (Option.some.inj he).symm⟩
        · refine Or.inr (Or.inr (Or.inr ⟨fun z => by omega, ?_⟩))
          have he : (ex' i).map (fun q => Sum.inr (0, [Value.ref q.2])) = some e := he
          rw [hxn i hi] at he
          exact he
      | 13, he =>
        by_cases hi : i = 5 * d + c
        · subst hi
          have he : (ex' (5 * d + c)).map (fun _ => Sum.inl (G.2.1 1, 5, Sum.inr (Sum.inl (rw5 ((bk S c k d x).2 0) (5 * d + c))))) = some e := he
          rw [hxs] at he
          exact Or.inr (Or.inl ⟨rfl, rfl, (Option.some.inj he).symm⟩)
        · refine Or.inr (Or.inr (Or.inr ⟨fun z => by omega, ?_⟩))
          have he : (ex' i).map (fun _ => Sum.inl (G.2.1 1, 5, Sum.inr (Sum.inl (rw5 ((bk S c k d x).2 0) i)))) = some e := he
          rw [hxn i hi, show rw5 ((bk S c k d x).2 0) i = rw5 (S.2 0) i from rw5_n hk hi] at he
          exact he
      | 0, he => exact Or.inr (Or.inr (Or.inr ⟨fun z => by omega, he⟩))
      | 1, he => exact Or.inr (Or.inr (Or.inr ⟨fun z => by omega, he⟩))
      | 2, he => exact Or.inr (Or.inr (Or.inr ⟨fun z => by omega, he⟩))
      | 3, he => exact Or.inr (Or.inr (Or.inr ⟨fun z => by omega, he⟩))
      | 4, he => exact Or.inr (Or.inr (Or.inr ⟨fun z => by omega, he⟩))
      | 5, he => exact Or.inr (Or.inr (Or.inr ⟨fun z => by omega, he⟩))
      | 6, he => exact Or.inr (Or.inr (Or.inr ⟨fun z => by omega, he⟩))
      | 8, he => exact Or.inr (Or.inr (Or.inr ⟨fun z => by omega, he⟩))
      | 9, he => exact Or.inr (Or.inr (Or.inr ⟨fun z => by omega, he⟩))
      | 10, he => exact Or.inr (Or.inr (Or.inr ⟨fun z => by omega, he⟩))
      | 11, he => exact Or.inr (Or.inr (Or.inr ⟨fun z => by omega, he⟩))
      | 14, he => exact Or.inr (Or.inr (Or.inr ⟨fun z => by omega, he⟩))
      | 15, he => exact Or.inr (Or.inr (Or.inr ⟨fun z => by omega, he⟩))
      | 16, he => exact Or.inr (Or.inr (Or.inr ⟨fun z => by omega, he⟩))
      | 17, he => exact Or.inr (Or.inr (Or.inr ⟨fun z => by omega, he⟩))
      | 18, he => exact Or.inr (Or.inr (Or.inr ⟨fun z => by omega, he⟩))
      | 19, he => exact Or.inr (Or.inr (Or.inr ⟨fun z => by omega, he⟩))
      | 20, he => exact Or.inr (Or.inr (Or.inr ⟨fun z => by omega, he⟩))
      | 21, he => exact Or.inr (Or.inr (Or.inr ⟨fun z => by omega, he⟩))
      | 22, he => exact Or.inr (Or.inr (Or.inr ⟨fun z => by omega, he⟩))
      | 23, he => exact Or.inr (Or.inr (Or.inr ⟨fun z => by omega, he⟩))
      | 24, he => exact Or.inr (Or.inr (Or.inr ⟨fun z => by omega, he⟩))
      | 25, he => exact Or.inr (Or.inr (Or.inr ⟨fun z => by omega, he⟩))
      | 26, he => exact Or.inr (Or.inr (Or.inr ⟨fun z => by omega, he⟩))
      | 27, he => exact Or.inr (Or.inr (Or.inr ⟨fun z => by omega, he⟩))
      | 28, he => exact Or.inr (Or.inr (Or.inr ⟨fun z => by omega, he⟩))
      | k + 29, he => cases he
    have aq : adr ex' ad 12 (5 * d + c) = q := by show ((ex' (5 * d + c)).getD (0, 0)).1 = _; rw [hxs]; rfl
    have aqb : adr ex' ad 13 (5 * d + c) = qb := by show ((ex' (5 * d + c)).getD (0, 0)).2 = _; rw [hxs]; rfl
    have l7 : ad 7 c ≠ q ∧ ad 7 c ≠ qb := live 7 c _ (ct7 hc)
    refine ⟨ex', ⟨fun k2 i e he => ?_, fun k2 i k3 i3 e e3 he1 he2 ha => ?_⟩, fun y hy m hm => ?_, fun y q2 hy => ?_⟩
    · show (va_up (va_up (va_up M q _) qb _) (ad 7 c) _) _ = some e
      rcases cls k2 i e he with ⟨rfl, rfl, rfl⟩ | ⟨rfl, rfl, rfl⟩ | ⟨rfl, hi9, rfl⟩ | ⟨hno, h0⟩
      · rw [aq, up_ne (Ne.symm l7.1), up_ne h4, up_eq]
      · rw [aqb, up_ne (Ne.symm l7.2), up_eq, hrow]
      · rw [hi9, show adr ex' ad 7 c = ad 7 c from rfl, up_eq, hntr]
      · have l := live k2 i e h0
        have hne9 : adr ex ad k2 i ≠ ad 7 c := fun z => hno (h.2 k2 i 7 c e _ h0 (ct7 hc) z)
        rw [aN k2 i e h0, up_ne hne9, up_ne l.2, up_ne l.1]
        exact h.1 k2 i e h0
    · rcases cls k2 i e he1 with ⟨rfl, rfl, -⟩ | ⟨rfl, rfl, -⟩ | ⟨rfl, rfl, -⟩ | ⟨hno, h0⟩ <;> rcases cls k3 i3 e3 he2 with ⟨rfl, rfl, -⟩ | ⟨rfl, rfl, -⟩ | ⟨rfl, rfl, -⟩ | ⟨hno3, h03⟩
      · exact ⟨rfl, rfl⟩
      · rw [aq, aqb] at ha; exact absurd ha h4
      · rw [aq] at ha; exact absurd ha.symm l7.1
      · rw [aq, aN _ _ _ h03] at ha; exact absurd ha.symm (live _ _ _ h03).1
      · rw [aq, aqb] at ha; exact absurd ha.symm h4
      · exact ⟨rfl, rfl⟩
      · rw [aqb] at ha; exact absurd ha.symm l7.2
      · rw [aqb, aN _ _ _ h03] at ha; exact absurd ha.symm (live _ _ _ h03).2
      · rw [aq] at ha; exact absurd ha l7.1
      · rw [aqb] at ha; exact absurd ha l7.2
      · exact ⟨rfl, rfl⟩
      · rw [aN _ _ _ h03] at ha; exact h.2 _ _ _ _ _ _ (ct7 hc) h03 ha
      · rw [aq, aN _ _ _ h0] at ha; exact absurd ha (live _ _ _ h0).1
      · rw [aqb, aN _ _ _ h0] at ha; exact absurd ha (live _ _ _ h0).2
      · rw [aN _ _ _ h0] at ha; exact h.2 _ _ _ _ _ _ h0 (ct7 hc) ha
      · rw [aN _ _ _ h0, aN _ _ _ h03] at ha; exact h.2 _ _ _ _ _ _ h0 h03 ha
    · have hne : ¬ y = 5 * d + c := fun z => by rw [z, hxs] at hy; cases hy
      show u2 S.2 0 (5 * (5 * d + c) + k) _ 0 (5 * y + m) = 0
      rw [u2_n (fun z => hne (by omega))]
      exact hx.1 y (by rw [← hxn y hne]; exact hy) m hm
    · by_cases hne : y = 5 * d + c
      · omega
      · exact hx.2 y q2 (by rw [← hxn y hne]; exact hy)
