/-- what the roles hold while an object a is built; the cells of M0 stand but for a -/
def WI (M0 : Mp) (a : Nat) (L : Nat → Nat → Option va_E) (ad : Nat → Nat → Nat) (M : Mp) : Prop :=
  (∀ k i e, L k i = some e → M (ad k i) = some e) ∧
  (∀ k i k' i' e e', L k i = some e → L k' i' = some e' → ad k i = ad k' i' → k = k' ∧ i = i') ∧
  (∀ k i e, L k i = some e → ad k i = a ∨ M0 (ad k i) = none) ∧
  (∀ b e, ¬ b = a → M0 b = some e → M b = some e)
def lu (L : Nat → Nat → Option va_E) (k0 i0 : Nat) (e : va_E) : Nat → Nat → Option va_E := fun k i => if k = k0 ∧ i = i0 then some e else L k i
theorem WI.same {M0 M : Mp} {a : Nat} {L L' : Nat → Nat → Option va_E} {ad : Nat → Nat → Nat} (h : WI M0 a L ad M) (hl : ∀ k i, L' k i = L k i) : WI M0 a L' ad M := by
  have e : L' = L := by funext k i; exact hl k i
  rw [e]; exact h
theorem WI.one {M : Mp} {a : Nat} {e : va_E} (K : Nat) (h : M a = some e) : WI M a (lu (fun _ _ => none) K 0 e) (fun _ _ => a) M := by
  refine ⟨fun k i f hf => ?_, fun k i k' i' f f' h1 h2 _ => ?_, fun k i f hf => Or.inl rfl, fun b f _ hb => hb⟩
  rotate_left
  · unfold lu at h1 h2
    by_cases q : k = K ∧ i = 0
    · by_cases q' : k' = K ∧ i' = 0
      · exact ⟨q.1.trans q'.1.symm, q.2.trans q'.2.symm⟩
      · rw [if_neg q'] at h2; cases h2
    · rw [if_neg q] at h1; cases h1
  · unfold lu at hf
    by_cases q : k = K ∧ i = 0
    · rw [if_pos q] at hf; rw [← hf]; exact h
    · rw [if_neg q] at hf; cases hf
theorem WI.up {M0 M : Mp} {a : Nat} {L : Nat → Nat → Option va_E} {ad : Nat → Nat → Nat} (h : WI M0 a L ad M) (k0 i0 : Nat) {e0 e : va_E} (h0 : L k0 i0 = some e0) : WI M0 a (lu L k0 i0 e) ad (va_up M (ad k0 i0) (some e)) := by
  have lv : ∀ k i f, lu L k0 i0 e k i = some f → ∃ g, L k i = some g := by
    intro k i f hf
    unfold lu at hf
    by_cases q : k = k0 ∧ i = i0
    · obtain ⟨rfl, rfl⟩ := q; exact ⟨_, h0⟩
    · rw [if_neg q] at hf; exact ⟨_, hf⟩
  refine ⟨fun k i f hf => ?_, fun k i k' i' f f' h1 h2 h3 => ?_, fun k i f hf => ?_, fun b f hb hf => ?_⟩
  · unfold lu at hf
    by_cases q : k = k0 ∧ i = i0
    · rw [if_pos q] at hf; obtain ⟨rfl, rfl⟩ := q; rw [← hf]; exact up_eq
    · rw [if_neg q] at hf
      rw [up_ne (fun z => q (h.2.1 k i k0 i0 f e0 hf h0 z))]
      exact h.1 k i f hf
  · obtain ⟨g, hg⟩ := lv k i f h1
    obtain ⟨g', hg'⟩ := lv k' i' f' h2
    exact h.2.1 k i k' i' g g' hg hg' h3
  · obtain ⟨g, hg⟩ := lv k i f hf
    exact h.2.2.1 k i g hg
  · rw [up_ne (fun z => ?_)]
    · exact h.2.2.2 b f hb hf
    · rcases h.2.2.1 k0 i0 e0 h0 with w | w
      · exact hb (z.trans w)
      · rw [← z, hf] at w; cases w
theorem WI.add {M0 M : Mp} {a : Nat} {L : Nat → Nat → Option va_E} {ad : Nat → Nat → Nat} (h : WI M0 a L ad M) (k0 i0 : Nat) {q : Nat} (hq : M q = none) (e : va_E) : WI M0 a (lu L k0 i0 e) (u2 ad k0 i0 q) (va_up M q (some e)) := by
  have ne : ∀ k i f, L k i = some f → ¬ ad k i = q := fun k i f hf z => by
    have w := h.1 k i f hf
    rw [z, hq] at w; cases w
  have ot : ∀ k i f, ¬ (k = k0 ∧ i = i0) → lu L k0 i0 e k i = some f → L k i = some f := fun k i f c hf => by
    unfold lu at hf; rwa [if_neg c] at hf
  refine ⟨fun k i f hf => ?_, fun k i k' i' f f' h1 h2 h3 => ?_, fun k i f hf => ?_, fun b f hb hf => ?_⟩
  · by_cases c : k = k0 ∧ i = i0
    · obtain ⟨rfl, rfl⟩ := c
      unfold lu at hf
      rw [if_pos ⟨rfl, rfl⟩] at hf
      rw [u2_s, ← hf]; exact up_eq
    · have w := ot k i f c hf
      rw [u2_n c, up_ne (ne k i f w)]
      exact h.1 k i f w
  · by_cases c : k = k0 ∧ i = i0
    · by_cases c' : k' = k0 ∧ i' = i0
      · exact ⟨c.1.trans c'.1.symm, c.2.trans c'.2.symm⟩
      · rw [u2_n c'] at h3
        obtain ⟨rfl, rfl⟩ := c
        rw [u2_s] at h3
        exact absurd h3.symm (ne k' i' f' (ot k' i' f' c' h2))
    · rw [u2_n c] at h3
      by_cases c' : k' = k0 ∧ i' = i0
      · obtain ⟨rfl, rfl⟩ := c'
        rw [u2_s] at h3
        exact absurd h3 (ne k i f (ot k i f c h1))
      · rw [u2_n c'] at h3
        exact h.2.1 k i k' i' f f' (ot k i f c h1) (ot k' i' f' c' h2) h3
  · by_cases c : k = k0 ∧ i = i0
    · obtain ⟨rfl, rfl⟩ := c
      rw [u2_s]
      by_cases z : q = a
      · exact Or.inl z
      · refine Or.inr ?_
        cases w : M0 q with
        | none => rfl
        | some g => rw [h.2.2.2 q g z w] at hq; cases hq
    · rw [u2_n c]
      exact h.2.2.1 k i f (ot k i f c hf)
  · have w := h.2.2.2 b f hb hf
    rw [up_ne (fun z => by rw [z, hq] at w; cases w)]
    exact w
/-- the desk while it is built -/
def cI (kA : Nat → ClassId) (ad : Nat → Nat → Nat) (r5 r10 n m : Nat) (k i : Nat) : Option va_E := match k with
  | 0 => if i = 0 then some (.inr (5, [.ref (ad 1 0), .ref (ad 3 0), if r5 = 0 then .null else .ref (ad 5 0), if r10 = 0 then .null else .ref (ad 10 0), .int 0])) else none
  | 1 => if i = 0 then some (.inr (1, [.ref (ad 2 0), .int 0])) else none
  | 2 => if i = 0 then some (.inl (kA 2, 1001, .inl (fun _ => 0))) else none
  | 3 => if i = 0 then some (.inl (kA 3, 4, .inr (.inr (.inr (.inr (fun c => if c < n then some (ad 4 c) else none)))))) else none
  | 4 => if i < n then some (.inr (2, [.int (nI i), .int 10000, .int 0])) else none
  | 5 => if i = 0 ∧ ¬ r5 = 0 then some (.inl (kA 4, 5, .inr (.inr (.inr (.inr (fun c => if c < m then some (ad 6 c) else none)))))) else none
  | 6 => if i < m then some (.inr (3, [.int 1000000, .ref (ad 7 i), .ref (ad 8 i)])) else none
  | 7 => if i < m then some (.inl (kA 5, 1002, .inr (.inr (.inr (.inr (fun _ => none)))))) else none
  | 8 => if i < m then some (.inr (0, [.ref (ad 9 i)])) else none
  | 9 => if i < m then some (.inl (kA 1, 5, .inr (.inl (fun _ => 0)))) else none
  | 10 => if i = 0 ∧ ¬ r10 = 0 then some (.inl (kA 6, 20, .inr (.inr (.inr (.inr (fun _ => none)))))) else none
  | _ => none
theorem row_n {g g' : Nat → Nat} {m q : Nat} (h : ∀ c, c < m → g' c = g c) (hq : g' m = q) : (fun c => if c < m + 1 then some (g' c) else none) = va_up (fun c => if c < m then some (g c) else none) m (some q) := by
  funext c
  by_cases h1 : c = m
  · subst h1; simp [va_up, hq]
  · rw [show va_up (fun c => if c < m then some (g c) else none) m (some q) c = (if c < m then some (g c) else none) from by simp [va_up, h1]]
    by_cases h2 : c < m
    · rw [if_pos (by omega), if_pos h2, h c h2]
    · rw [if_neg (by omega), if_neg h2]
theorem WI.cur {M0 M : Mp} {a m q : Nat} {kA : Nat → ClassId} {ad : Nat → Nat → Nat} (h : WI M0 a (cI kA ad 0 0 m 0) ad M) (hq : M q = none) :
    ∃ ad2, ad2 0 0 = ad 0 0 ∧ WI M0 a (cI kA ad2 0 0 (m + 1) 0) ad2 (va_up (va_up M q (some (.inr (2, [.int (nI m), .int 10000, .int 0])))) (ad 3 0) (some (.inl (kA 3, 4, .inr (.inr (.inr (.inr (va_up (fun c => if c < m then some (ad 4 c) else none) m (some q))))))))) := by
  have h1 := h.add 4 m hq (.inr (2, [.int (nI m), .int 10000, .int 0]))
  have h2 := h1.up 3 0 (e := .inl (kA 3, 4, .inr (.inr (.inr (.inr (va_up (fun c => if c < m then some (ad 4 c) else none) m (some q)))))))  (e0 := .inl (kA 3, 4, .inr (.inr (.inr (.inr (fun c => if c < m then some (ad 4 c) else none)))))) (by simp [lu, cI])
  refine ⟨u2 ad 4 m q, rfl, h2.same (fun k i => ?_)⟩
  have hr : (fun c => if c < m + 1 then some (u2 ad 4 m q 4 c) else none) = va_up (fun c => if c < m then some (ad 4 c) else none) m (some q) := row_n (fun c hc => u2_n (fun z => by omega)) u2_s
  match k with
  | 3 => by_cases hz : i = 0 <;> simp [cI, lu, hz, hr]
  | 4 =>
    by_cases hm : i = m
    · subst hm; simp [cI, lu]
    · have h9 : i < m + 1 ↔ i < m := by omega
      simp [cI, lu, hm, h9]
  | 0 => simp [cI, lu, u2]
  | 1 => simp [cI, lu, u2]
  | 2 => simp [cI, lu]
  | 5 => simp [cI, lu]
  | 6 => simp [cI, lu]
  | 7 => simp [cI, lu]
  | 8 => simp [cI, lu]
  | 9 => simp [cI, lu]
  | 10 => simp [cI, lu]
  | k + 11 => simp [cI, lu]
theorem none_up {M : Mp} {q u : Nat} {x : Option va_E} (h : ¬ u = q) (hu : M u = none) : va_up M q x u = none := by rw [up_ne h]; exact hu
theorem up_none {M : Mp} {q u : Nat} {x : va_E} (h : va_up M q (some x) u = none) : ¬ u = q ∧ M u = none := by
  by_cases z : u = q
  · subst z; rw [up_eq] at h; cases h
  · exact ⟨z, by rwa [up_ne z] at h⟩
theorem ne_of {M : Mp} {b u : Nat} {e : va_E} (h : M b = some e) (hu : M u = none) : ¬ b = u := fun z => by rw [z, hu] at h; cases h
theorem WI.cus {M0 M : Mp} {a m q u v w : Nat} {kA : Nat → ClassId} {ad : Nat → Nat → Nat} (h : WI M0 a (cI kA ad 1 0 4 m) ad M) (hq : M q = none) (hu : M u = none) (hv : M v = none) (hw : M w = none) (d1 : ¬ u = q) (d2 : ¬ v = q) (d3 : ¬ w = q) (d4 : u ≠ v) (d5 : u ≠ w) (d6 : v ≠ w) :
    ∃ ad2, ad2 0 0 = ad 0 0 ∧ WI M0 a (cI kA ad2 1 0 4 (m + 1)) ad2 (va_up (va_up (va_up (va_up (va_up M q (some (.inr (3, [.int 1000000, .ref u, .ref v])))) u (some (.inl (kA 5, 1002, .inr (.inr (.inr (.inr (fun _ => none)))))))) v (some (.inr (0, [.ref w])))) w (some (.inl (kA 1, 5, .inr (.inl (fun _ => 0)))))) (ad 5 0) (some (.inl (kA 4, 5, .inr (.inr (.inr (.inr (va_up (fun c => if c < m then some (ad 6 c) else none) m (some q))))))))) := by
  have h1 := h.add 6 m hq (.inr (3, [.int 1000000, .ref u, .ref v]))
  have h2 := h1.add 7 m (none_up d1 hu) (.inl (kA 5, 1002, .inr (.inr (.inr (.inr (fun _ => none))))))
  have h3 := h2.add 8 m (none_up (Ne.symm d4) (none_up d2 hv)) (.inr (0, [.ref w]))
  have h4 := h3.add 9 m (none_up (Ne.symm d6) (none_up (Ne.symm d5) (none_up d3 hw))) (.inl (kA 1, 5, .inr (.inl (fun _ => 0))))
  have h5 := h4.up 5 0 (e := .inl (kA 4, 5, .inr (.inr (.inr (.inr (va_up (fun c => if c < m then some (ad 6 c) else none) m (some q))))))) (e0 := .inl (kA 4, 5, .inr (.inr (.inr (.inr (fun c => if c < m then some (ad 6 c) else none)))))) (by simp [lu, cI])
  refine ⟨u2 (u2 (u2 (u2 ad 6 m q) 7 m u) 8 m v) 9 m w, rfl, h5.same (fun k i => ?_)⟩
  have hr : (fun c => if c < m + 1 then some (u2 (u2 (u2 (u2 ad 6 m q) 7 m u) 8 m v) 9 m w 6 c) else none) = va_up (fun c => if c < m then some (ad 6 c) else none) m (some q) := row_n (fun c hc => by rw [u2_n (fun z => by omega), u2_n (fun z => by omega), u2_n (fun z => by omega), u2_n (fun z => by omega)]) (by rw [u2_n (fun z => by omega), u2_n (fun z => by omega), u2_n (fun z => by omega), u2_s])
  have h9 : ∀ i, ¬ i = m → (i < m + 1 ↔ i < m) := fun i hi => by omega
  match k with
  | 5 => by_cases hz : i = 0 <;> simp [cI, lu, hz, hr]
  | 6 =>
    by_cases hm : i = m
    · subst hm; simp [cI, lu, u2]
    · simp [cI, lu, hm, h9 i hm, u2]
  | 7 =>
    by_cases hm : i = m
    · subst hm; simp [cI, lu]
    · simp [cI, lu, hm, h9 i hm]
  | 8 =>
    by_cases hm : i = m
    · subst hm; simp [cI, lu, u2]
    · simp [cI, lu, hm, h9 i hm, u2]
  | 9 =>
    by_cases hm : i = m
    · subst hm; simp [cI, lu]
    · simp [cI, lu, hm, h9 i hm]
  | 0 => simp [cI, lu, u2]
  | 1 => simp [cI, lu, u2]
  | 2 => simp [cI, lu]
  | 3 => simp [cI, lu, u2]
  | 4 => simp [cI, lu]
  | 10 => simp [cI, lu]
  | k + 11 => simp [cI, lu]
set_option maxHeartbeats 4000000 in
set_option maxRecDepth 100000 in
theorem c_X5_init (l : Launch) (G : Gx) (M : Mp) (a : Nat) (fa : M a = some (.inr (5, [.null, .null, .null, .null, .int 0]))) : Met l yX5_init wsX5_init ({ frames := 3, cells := 29, slots := 6099, locals := 60 }) (Cv G M [.ref a]) (va_Qv (S := Mp) (fun M2 => ∃ ad2 : Nat → Nat → Nat, ad2 0 0 = a ∧ WI M a (cI G.2.1 ad2 1 1 4 5) ad2 M2) (Bm G (fun M2 => M2)) (AG G)) (29) (6099) (AG G) := by
  refine m_met [.ref a] [(0, .ref a)] (by decide) rfl rfl (Nat.le_of_ble_eq_true rfl) ?_
  intro p e s m below meth c ls hx hb hr hml hown hts hlocks hin hC hM hl hS
  refine lv_aload_n hx hb dX5_init_0 rfl (lv_at hl 0 rfl) ?_
  refine W.objInit hx hb hown (hts (.methodLink RX5 3 objectInit) (by decide +kernel)) (hts (.instanceMethod objectInit) (by decide +kernel)) (hts (.code objectInit ⟨#[0xb1]⟩ 1 none) (by decide +kernel)) rfl (by rw [hml]; exact hl.1) rfl dX5_init_1 (Nat.le_of_ble_eq_true rfl) (Nat.le_of_ble_eq_true rfl) ?_
  refine W.eq (g2 := F0 m 4 ls []) rfl ?_
  refine lv_aload_n hx hb dX5_init_4 rfl (lv_at hl 0 rfl) ?_
  refine m_new (ci := 1) (fs := [.null, .int 0]) (C := RX1) (T := TX1) (N := 2) hx hb hts (by decide +kernel) tyX1 tyX1_ok hown (hts (.classLink RX5 9 RX1) (by decide +kernel)) (hts (.instantiable RX1 2) (by decide +kernel)) (hts (.initialized RX1) (by decide +kernel)) hC hM hS hC.1 rfl (fun j hj => by rcases (show j = 0 ∨ j = 1 by omega) with rfl | rfl <;> rfl) (Nat.le_of_ble_eq_true rfl) (Nat.le_of_ble_eq_true rfl) dX5_init_5 (fun q5 H hn5 hM hS => ?_)
  have hM : Hm G (va_up M q5 (some (.inr (1, [.null, .int 0])))) H := hM
  have hne5_1 : a ≠ q5 := fun h9 => absurd (Eq.trans (Eq.trans (Eq.symm fa) (congrArg M h9)) hn5) (by simp)
  have f5_1 : (va_up M q5 (some (.inr (1, [.null, .int 0])))) a = some (.inr (5, [.null, .null, .null, .null, .int 0])) := (up_ne hne5_1).trans fa
  have f5_q2 : (va_up M q5 (some (.inr (1, [.null, .int 0])))) q5 = some (.inr (1, [.null, .int 0])) := up_eq
  refine lv_dup hx hb dX5_init_8 rfl ?_
  refine k_v (va_runIN (As := []) (rest := [.ref q5, .ref a]) ⟨hx, hb, hml, hown, hts⟩ (c_X1_init l G (va_up M q5 (some (.inr (1, [.null, .int 0])))) q5 f5_q2) ⟨va_cnB 0 hts gX5_init_X1_init_n11 rfl rfl rfl (hC.w 13 rfl) (hts (.initialized RX1) (by decide +kernel)) (by decide +kernel) ⟨Nat.le_of_ble_eq_true rfl, Nat.le_of_ble_eq_true rfl⟩, rfl, hts (.instanceMethod yX1_init) (by decide +kernel)⟩ (preS_of hC hS hM) rfl rfl hl.1 rfl (lv_room (Nat.le_of_ble_eq_true rfl)) dX5_init_9 ⟨Nat.le_of_ble_eq_true rfl, Nat.le_of_ble_eq_true rfl⟩) hS (fun u9 H locs hp9 hM hS => ?_)
  have hne9_3 : a ≠ u9 := fun h9 => absurd (Eq.trans (Eq.trans (Eq.symm f5_1) (congrArg (va_up M q5 (some (.inr (1, [.null, .int 0])))) h9)) hp9) (by simp)
  have f9_3 : (va_up (va_up M q5 (some (.inr (1, [.null, .int 0])))) u9 (some (.inl (G.2.1 2, 1001, .inl (fun _ => 0))))) a = some (.inr (5, [.null, .null, .null, .null, .int 0])) := (up_ne hne9_3).trans f5_1
  have hne9_4 : q5 ≠ u9 := fun h9 => absurd (Eq.trans (Eq.trans (Eq.symm f5_q2) (congrArg (va_up M q5 (some (.inr (1, [.null, .int 0])))) h9)) hp9) (by simp)
  have f9_4 : (va_up (va_up M q5 (some (.inr (1, [.null, .int 0])))) u9 (some (.inl (G.2.1 2, 1001, .inl (fun _ => 0))))) q5 = some (.inr (1, [.null, .int 0])) := (up_ne hne9_4).trans f5_q2
  have f9_q5 : (va_up (va_up M q5 (some (.inr (1, [.null, .int 0])))) u9 (some (.inl (G.2.1 2, 1001, .inl (fun _ => 0))))) u9 = some (.inl (G.2.1 2, 1001, .inl (fun _ => 0))) := up_eq
  have hM : Hm G (va_up (va_up (va_up M q5 (some (.inr (1, [.null, .int 0])))) u9 (some (.inl (G.2.1 2, 1001, .inl (fun _ => 0))))) q5 (some (.inr (1, [.ref u9, .int 0])))) H := hM
  have g9_6 : (va_up (va_up (va_up M q5 (some (.inr (1, [.null, .int 0])))) u9 (some (.inl (G.2.1 2, 1001, .inl (fun _ => 0))))) q5 (some (.inr (1, [.ref u9, .int 0])))) a = some (.inr (5, [.null, .null, .null, .null, .int 0])) := (up_ne hne5_1).trans f9_3
  have g9_7 : (va_up (va_up (va_up M q5 (some (.inr (1, [.null, .int 0])))) u9 (some (.inl (G.2.1 2, 1001, .inl (fun _ => 0))))) q5 (some (.inr (1, [.ref u9, .int 0])))) q5 = some (.inr (1, [.ref u9, .int 0])) := up_eq
  have g9_8 : (va_up (va_up (va_up M q5 (some (.inr (1, [.null, .int 0])))) u9 (some (.inl (G.2.1 2, 1001, .inl (fun _ => 0))))) q5 (some (.inr (1, [.ref u9, .int 0])))) u9 = some (.inl (G.2.1 2, 1001, .inl (fun _ => 0))) := (up_ne (fun h9 => absurd (Eq.trans (Eq.trans (Eq.symm f9_q5) (congrArg (va_up (va_up M q5 (some (.inr (1, [.null, .int 0])))) u9 (some (.inl (G.2.1 2, 1001, .inl (fun _ => 0))))) h9)) f9_4) (by simp))).trans f9_q5
  refine m_putF (host := "") (ci := 5) (v := .ref q5) (ty := .object "Forwardroll$Calendar") (C := RX5) (T := TX5) (N := 5) (a := a) hx hb hts (by decide +kernel) tyX5 tyX5_ok nmX5 hown hC hM hS g9_6 rfl 0 (by decide) (hts (.fieldLink RX5 12 "Forwardroll" "calendar" "LForwardroll$Calendar;") (by decide +kernel)) (fun _ h9 => h9) rfl hin rfl (by decide +kernel) rfl rfl (Nat.le_of_ble_eq_true rfl) dX5_init_12 (fun H locs hM hS => ?_)
  have hM : Hm G (va_up (va_up (va_up (va_up M q5 (some (.inr (1, [.null, .int 0])))) u9 (some (.inl (G.2.1 2, 1001, .inl (fun _ => 0))))) q5 (some (.inr (1, [.ref u9, .int 0])))) a (some (.inr (5, [.ref q5, .null, .null, .null, .int 0])))) H := hM
  have f12_10 : (va_up (va_up (va_up (va_up M q5 (some (.inr (1, [.null, .int 0])))) u9 (some (.inl (G.2.1 2, 1001, .inl (fun _ => 0))))) q5 (some (.inr (1, [.ref u9, .int 0])))) a (some (.inr (5, [.ref q5, .null, .null, .null, .int 0])))) a = some (.inr (5, [.ref q5, .null, .null, .null, .int 0])) := up_eq
  have f12_11 : (va_up (va_up (va_up (va_up M q5 (some (.inr (1, [.null, .int 0])))) u9 (some (.inl (G.2.1 2, 1001, .inl (fun _ => 0))))) q5 (some (.inr (1, [.ref u9, .int 0])))) a (some (.inr (5, [.ref q5, .null, .null, .null, .int 0])))) q5 = some (.inr (1, [.ref u9, .int 0])) := (up_ne (fun h9 => absurd (Eq.trans (Eq.trans (Eq.symm g9_7) (congrArg (va_up (va_up (va_up M q5 (some (.inr (1, [.null, .int 0])))) u9 (some (.inl (G.2.1 2, 1001, .inl (fun _ => 0))))) q5 (some (.inr (1, [.ref u9, .int 0])))) h9)) g9_6) (by simp))).trans g9_7
  have f12_12 : (va_up (va_up (va_up (va_up M q5 (some (.inr (1, [.null, .int 0])))) u9 (some (.inl (G.2.1 2, 1001, .inl (fun _ => 0))))) q5 (some (.inr (1, [.ref u9, .int 0])))) a (some (.inr (5, [.ref q5, .null, .null, .null, .int 0])))) u9 = some (.inl (G.2.1 2, 1001, .inl (fun _ => 0))) := (up_ne (fun h9 => absurd (Eq.trans (Eq.trans (Eq.symm g9_8) (congrArg (va_up (va_up (va_up M q5 (some (.inr (1, [.null, .int 0])))) u9 (some (.inl (G.2.1 2, 1001, .inl (fun _ => 0))))) q5 (some (.inr (1, [.ref u9, .int 0])))) h9)) g9_6) (by simp))).trans g9_8
  refine lv_aload_n hx hb dX5_init_15 rfl (lv_at hl 0 rfl) ?_
  refine lv_iconst (v := 4) hx hb dX5_init_16 (by decide) ?_
  refine m_newq (C := RX2) hx hb hown (hts (.classLink RX5 16 RX2) (by decide +kernel)) (hC.ao 1 rfl) 3 hC rfl hM hS hC.1 (N' := 4) (by decide) (by decide) (Nat.le_of_ble_eq_true rfl) (Nat.le_of_ble_eq_true rfl) (Nat.le_of_ble_eq_true rfl) dX5_init_17 (fun q17 H hn17 hM hS => ?_)
  have hM : Hm G (va_up (va_up (va_up (va_up (va_up M q5 (some (.inr (1, [.null, .int 0])))) u9 (some (.inl (G.2.1 2, 1001, .inl (fun _ => 0))))) q5 (some (.inr (1, [.ref u9, .int 0])))) a (some (.inr (5, [.ref q5, .null, .null, .null, .int 0])))) q17 (some (.inl (G.2.1 3, 4, .inr (.inr (.inr (.inr (fun _ => none)))))))) H := hM
  have hne17_13 : a ≠ q17 := fun h9 => absurd (Eq.trans (Eq.trans (Eq.symm f12_10) (congrArg (va_up (va_up (va_up (va_up M q5 (some (.inr (1, [.null, .int 0])))) u9 (some (.inl (G.2.1 2, 1001, .inl (fun _ => 0))))) q5 (some (.inr (1, [.ref u9, .int 0])))) a (some (.inr (5, [.ref q5, .null, .null, .null, .int 0])))) h9)) hn17) (by simp)
  have f17_13 : (va_up (va_up (va_up (va_up (va_up M q5 (some (.inr (1, [.null, .int 0])))) u9 (some (.inl (G.2.1 2, 1001, .inl (fun _ => 0))))) q5 (some (.inr (1, [.ref u9, .int 0])))) a (some (.inr (5, [.ref q5, .null, .null, .null, .int 0])))) q17 (some (.inl (G.2.1 3, 4, .inr (.inr (.inr (.inr (fun _ => none)))))))) a = some (.inr (5, [.ref q5, .null, .null, .null, .int 0])) := (up_ne hne17_13).trans f12_10
  have hne17_14 : q5 ≠ q17 := fun h9 => absurd (Eq.trans (Eq.trans (Eq.symm f12_11) (congrArg (va_up (va_up (va_up (va_up M q5 (some (.inr (1, [.null, .int 0])))) u9 (some (.inl (G.2.1 2, 1001, .inl (fun _ => 0))))) q5 (some (.inr (1, [.ref u9, .int 0])))) a (some (.inr (5, [.ref q5, .null, .null, .null, .int 0])))) h9)) hn17) (by simp)
  have f17_14 : (va_up (va_up (va_up (va_up (va_up M q5 (some (.inr (1, [.null, .int 0])))) u9 (some (.inl (G.2.1 2, 1001, .inl (fun _ => 0))))) q5 (some (.inr (1, [.ref u9, .int 0])))) a (some (.inr (5, [.ref q5, .null, .null, .null, .int 0])))) q17 (some (.inl (G.2.1 3, 4, .inr (.inr (.inr (.inr (fun _ => none)))))))) q5 = some (.inr (1, [.ref u9, .int 0])) := (up_ne hne17_14).trans f12_11
  have hne17_15 : u9 ≠ q17 := fun h9 => absurd (Eq.trans (Eq.trans (Eq.symm f12_12) (congrArg (va_up (va_up (va_up (va_up M q5 (some (.inr (1, [.null, .int 0])))) u9 (some (.inl (G.2.1 2, 1001, .inl (fun _ => 0))))) q5 (some (.inr (1, [.ref u9, .int 0])))) a (some (.inr (5, [.ref q5, .null, .null, .null, .int 0])))) h9)) hn17) (by simp)
  have f17_15 : (va_up (va_up (va_up (va_up (va_up M q5 (some (.inr (1, [.null, .int 0])))) u9 (some (.inl (G.2.1 2, 1001, .inl (fun _ => 0))))) q5 (some (.inr (1, [.ref u9, .int 0])))) a (some (.inr (5, [.ref q5, .null, .null, .null, .int 0])))) q17 (some (.inl (G.2.1 3, 4, .inr (.inr (.inr (.inr (fun _ => none)))))))) u9 = some (.inl (G.2.1 2, 1001, .inl (fun _ => 0))) := (up_ne hne17_15).trans f12_12
  have f17_q16 : (va_up (va_up (va_up (va_up (va_up M q5 (some (.inr (1, [.null, .int 0])))) u9 (some (.inl (G.2.1 2, 1001, .inl (fun _ => 0))))) q5 (some (.inr (1, [.ref u9, .int 0])))) a (some (.inr (5, [.ref q5, .null, .null, .null, .int 0])))) q17 (some (.inl (G.2.1 3, 4, .inr (.inr (.inr (.inr (fun _ => none)))))))) q17 = some (.inl (G.2.1 3, 4, .inr (.inr (.inr (.inr (fun _ => none)))))) := up_eq
  refine m_putF (host := "") (ci := 5) (v := .ref q17) (ty := .array (.object "Forwardroll$Currency")) (C := RX5) (T := TX5) (N := 5) (a := a) hx hb hts (by decide +kernel) tyX5 tyX5_ok nmX5 hown hC hM hS f17_13 rfl 1 (by decide) (hts (.fieldLink RX5 18 "Forwardroll" "currencies" "[LForwardroll$Currency;") (by decide +kernel)) (fun _ h9 => h9) rfl hin rfl (by decide +kernel) rfl rfl (Nat.le_of_ble_eq_true rfl) dX5_init_20 (fun H locs hM hS => ?_)
  have hM : Hm G (va_up (va_up (va_up (va_up (va_up (va_up M q5 (some (.inr (1, [.null, .int 0])))) u9 (some (.inl (G.2.1 2, 1001, .inl (fun _ => 0))))) q5 (some (.inr (1, [.ref u9, .int 0])))) a (some (.inr (5, [.ref q5, .null, .null, .null, .int 0])))) q17 (some (.inl (G.2.1 3, 4, .inr (.inr (.inr (.inr (fun _ => none)))))))) a (some (.inr (5, [.ref q5, .ref q17, .null, .null, .int 0])))) H := hM
  have f20_18 : (va_up (va_up (va_up (va_up (va_up (va_up M q5 (some (.inr (1, [.null, .int 0])))) u9 (some (.inl (G.2.1 2, 1001, .inl (fun _ => 0))))) q5 (some (.inr (1, [.ref u9, .int 0])))) a (some (.inr (5, [.ref q5, .null, .null, .null, .int 0])))) q17 (some (.inl (G.2.1 3, 4, .inr (.inr (.inr (.inr (fun _ => none)))))))) a (some (.inr (5, [.ref q5, .ref q17, .null, .null, .int 0])))) a = some (.inr (5, [.ref q5, .ref q17, .null, .null, .int 0])) := up_eq
  have f20_19 : (va_up (va_up (va_up (va_up (va_up (va_up M q5 (some (.inr (1, [.null, .int 0])))) u9 (some (.inl (G.2.1 2, 1001, .inl (fun _ => 0))))) q5 (some (.inr (1, [.ref u9, .int 0])))) a (some (.inr (5, [.ref q5, .null, .null, .null, .int 0])))) q17 (some (.inl (G.2.1 3, 4, .inr (.inr (.inr (.inr (fun _ => none)))))))) a (some (.inr (5, [.ref q5, .ref q17, .null, .null, .int 0])))) q5 = some (.inr (1, [.ref u9, .int 0])) := (up_ne (fun h9 => absurd (Eq.trans (Eq.trans (Eq.symm f17_14) (congrArg (va_up (va_up (va_up (va_up (va_up M q5 (some (.inr (1, [.null, .int 0])))) u9 (some (.inl (G.2.1 2, 1001, .inl (fun _ => 0))))) q5 (some (.inr (1, [.ref u9, .int 0])))) a (some (.inr (5, [.ref q5, .null, .null, .null, .int 0])))) q17 (some (.inl (G.2.1 3, 4, .inr (.inr (.inr (.inr (fun _ => none)))))))) h9)) f17_13) (by simp))).trans f17_14
  have f20_20 : (va_up (va_up (va_up (va_up (va_up (va_up M q5 (some (.inr (1, [.null, .int 0])))) u9 (some (.inl (G.2.1 2, 1001, .inl (fun _ => 0))))) q5 (some (.inr (1, [.ref u9, .int 0])))) a (some (.inr (5, [.ref q5, .null, .null, .null, .int 0])))) q17 (some (.inl (G.2.1 3, 4, .inr (.inr (.inr (.inr (fun _ => none)))))))) a (some (.inr (5, [.ref q5, .ref q17, .null, .null, .int 0])))) u9 = some (.inl (G.2.1 2, 1001, .inl (fun _ => 0))) := (up_ne (fun h9 => absurd (Eq.trans (Eq.trans (Eq.symm f17_15) (congrArg (va_up (va_up (va_up (va_up (va_up M q5 (some (.inr (1, [.null, .int 0])))) u9 (some (.inl (G.2.1 2, 1001, .inl (fun _ => 0))))) q5 (some (.inr (1, [.ref u9, .int 0])))) a (some (.inr (5, [.ref q5, .null, .null, .null, .int 0])))) q17 (some (.inl (G.2.1 3, 4, .inr (.inr (.inr (.inr (fun _ => none)))))))) h9)) f17_13) (by simp))).trans f17_15
  have f20_21 : (va_up (va_up (va_up (va_up (va_up (va_up M q5 (some (.inr (1, [.null, .int 0])))) u9 (some (.inl (G.2.1 2, 1001, .inl (fun _ => 0))))) q5 (some (.inr (1, [.ref u9, .int 0])))) a (some (.inr (5, [.ref q5, .null, .null, .null, .int 0])))) q17 (some (.inl (G.2.1 3, 4, .inr (.inr (.inr (.inr (fun _ => none)))))))) a (some (.inr (5, [.ref q5, .ref q17, .null, .null, .int 0])))) q17 = some (.inl (G.2.1 3, 4, .inr (.inr (.inr (.inr (fun _ => none)))))) := (up_ne (fun h9 => absurd (Eq.trans (Eq.trans (Eq.symm f17_q16) (congrArg (va_up (va_up (va_up (va_up (va_up M q5 (some (.inr (1, [.null, .int 0])))) u9 (some (.inl (G.2.1 2, 1001, .inl (fun _ => 0))))) q5 (some (.inr (1, [.ref u9, .int 0])))) a (some (.inr (5, [.ref q5, .null, .null, .null, .int 0])))) q17 (some (.inl (G.2.1 3, 4, .inr (.inr (.inr (.inr (fun _ => none)))))))) h9)) f17_13) (by simp))).trans f17_q16
  refine lv_iconst (v := 0) hx hb dX5_init_23 (by decide) ?_
  refine lv_istore_n (lv' := [(1, .int 0), (0, .ref a)]) hx hb dX5_init_24 rfl hl (by decide) rfl (fun ls hl => ?_)
  have hwi := ((((((WI.one 0 fa).add 1 0 hn5 (.inr (1, [.null, .int 0]))).add 2 0 hp9 (.inl (G.2.1 2, 1001, .inl (fun _ => 0)))).up 1 0 (e := .inr (1, [.ref u9, .int 0])) rfl).up 0 0 (e := .inr (5, [.ref q5, .null, .null, .null, .int 0])) rfl).add 3 0 hn17 (.inl (G.2.1 3, 4, .inr (.inr (.inr (.inr (fun _ => none))))))).up 0 0 (e := .inr (5, [.ref q5, .ref q17, .null, .null, .int 0])) rfl
  have hwj : WI M a (cI G.2.1 (u2 (u2 (u2 (fun _ _ => a) 1 0 q5) 2 0 u9) 3 0 q17) 0 0 0 0) (u2 (u2 (u2 (fun _ _ => a) 1 0 q5) 2 0 u9) 3 0 q17) (va_up (va_up (va_up (va_up (va_up (va_up M q5 (some (.inr (1, [.null, .int 0])))) u9 (some (.inl (G.2.1 2, 1001, .inl (fun _ => 0))))) q5 (some (.inr (1, [.ref u9, .int 0])))) a (some (.inr (5, [.ref q5, .null, .null, .null, .int 0])))) q17 (some (.inl (G.2.1 3, 4, .inr (.inr (.inr (.inr (fun _ => none)))))))) a (some (.inr (5, [.ref q5, .ref q17, .null, .null, .int 0])))) := by
    refine hwi.same (fun k i => ?_)
    match k with
    | 0 => by_cases hz : i = 0 <;> simp [cI, lu, u2, hz]
    | 1 => by_cases hz : i = 0 <;> simp [cI, lu, u2, hz]
    | 2 => by_cases hz : i = 0 <;> simp [cI, lu, u2, hz]
    | 3 => by_cases hz : i = 0 <;> simp [cI, lu, u2, hz]
    | 4 => by_cases hz : i = 0 <;> simp [cI, lu, u2, hz]
    | 5 => by_cases hz : i = 0 <;> simp [cI, lu, u2, hz]
    | 6 => by_cases hz : i = 0 <;> simp [cI, lu, u2, hz]
    | 7 => by_cases hz : i = 0 <;> simp [cI, lu, u2, hz]
    | 8 => by_cases hz : i = 0 <;> simp [cI, lu, u2, hz]
    | 9 => by_cases hz : i = 0 <;> simp [cI, lu, u2, hz]
    | 10 => by_cases hz : i = 0 <;> simp [cI, lu, u2, hz]
    | k + 11 => simp [cI, lu]
  have loop : ∀ (n9 : Nat) (i9 : Nat) (M9 : Mp) (ad9 : Nat → Nat → Nat), i9 + n9 = 4 → ad9 0 0 = a → WI M a (cI G.2.1 ad9 0 0 i9 0) ad9 M9 → ∀ ls : Array Slot, lv_has ls 2 [(0, .ref a), (1, .int (nI i9))] → ∀ (H : Heap) (locs : List Loc), Hm G M9 H → va_S (AG G) s.heap H locs → W p l e { frames := 3, cells := 29, slots := 6099, locals := 60 } s m ([.ref a] : List Value).toArray below meth c H locs (3 + i9) (1007 + 3 * i9) (MQ below (va_Qv (S := Mp) (fun M2 => ∃ ad2 : Nat → Nat → Nat, ad2 0 0 = a ∧ WI M a (cI G.2.1 ad2 1 1 4 5) ad2 M2) (Bm G (fun M2 => M2)) (AG G)) ([.ref a] : List Value).toArray s (29) (6099) (AG G)) (F0 m 25 ls []) := by
    intro n9
    induction n9 with
    | zero =>
      intro i9 M9 ad9 hn ha9 hw9 ls hl H locs hM hS
      have k0_22 : M9 a = some (.inr (5, [.ref (ad9 1 0), .ref (ad9 3 0), .null, .null, .int 0])) := ha9 ▸ hw9.1 0 0 _ rfl
      have k3_22 : M9 (ad9 3 0) = some (.inl (G.2.1 3, 4, .inr (.inr (.inr (.inr (fun c => if c < i9 then some (ad9 4 c) else none)))))) := hw9.1 3 0 _ rfl
      refine lv_iload_n hx hb dX5_init_25 rfl (lv_at hl 1 rfl) ?_
      refine lv_aload_n hx hb dX5_init_26 rfl (lv_at hl 0 rfl) ?_
      refine m_get (ci := 5) (v := .ref (ad9 3 0)) (C := RX5) (T := TX5) (N := 5) (a := a) hx hb hts (by decide +kernel) hown hC hM k0_22 rfl 1 (by decide) (hts (.fieldLink RX5 18 "Forwardroll" "currencies" "[LForwardroll$Currency;") (by decide +kernel)) (fun _ h9 => h9) rfl dX5_init_27 ?_
      refine m_alen (a := (ad9 3 0)) hx hb hC hM 3 rfl k3_22 (v := 4) rfl dX5_init_30 ?_
      refine lv_icmp_ge (tgt := 54) hx hb dX5_init_31 (by decide) (fun c_31 => ?_) (fun c_31 => False.elim (by exact c_31 (nI_le (a := 4) (by omega) (by omega))))
      have e4 : i9 = 4 := by omega
      refine W.widen (k := 7) (n := 1019) (by omega) (by omega) ?_
      rw [e4] at hw9
      have k0_24 : M9 a = some (.inr (5, [.ref (ad9 1 0), .ref (ad9 3 0), .null, .null, .int 0])) := ha9 ▸ hw9.1 0 0 _ rfl
      refine lv_aload_n hx hb dX5_init_54 rfl (lv_at hl 0 rfl) ?_
      refine lv_iconst (v := 5) hx hb dX5_init_55 (by decide) ?_
      refine m_newq (C := RX3) hx hb hown (hts (.classLink RX5 25 RX3) (by decide +kernel)) (hC.ao 2 rfl) 4 hC rfl hM hS hC.1 (N' := 5) (by decide) (by decide) (Nat.le_of_ble_eq_true rfl) (Nat.le_of_ble_eq_true rfl) (Nat.le_of_ble_eq_true rfl) dX5_init_56 (fun q56 H hn56 hM hS => ?_)
      have hM : Hm G (va_up M9 q56 (some (.inl (G.2.1 4, 5, .inr (.inr (.inr (.inr (fun _ => none)))))))) H := hM
      have hne56_25 : a ≠ q56 := fun h9 => absurd (Eq.trans (Eq.trans (Eq.symm k0_24) (congrArg M9 h9)) hn56) (by simp)
      have f56_25 : (va_up M9 q56 (some (.inl (G.2.1 4, 5, .inr (.inr (.inr (.inr (fun _ => none)))))))) a = some (.inr (5, [.ref (ad9 1 0), .ref (ad9 3 0), .null, .null, .int 0])) := (up_ne hne56_25).trans k0_24
      have f56_q26 : (va_up M9 q56 (some (.inl (G.2.1 4, 5, .inr (.inr (.inr (.inr (fun _ => none)))))))) q56 = some (.inl (G.2.1 4, 5, .inr (.inr (.inr (.inr (fun _ => none)))))) := up_eq
      refine m_putF (host := "") (ci := 5) (v := .ref q56) (ty := .array (.object "Forwardroll$Customer")) (C := RX5) (T := TX5) (N := 5) (a := a) hx hb hts (by decide +kernel) tyX5 tyX5_ok nmX5 hown hC hM hS f56_25 rfl 2 (by decide) (hts (.fieldLink RX5 27 "Forwardroll" "customers" "[LForwardroll$Customer;") (by decide +kernel)) (fun _ h9 => h9) rfl hin rfl (by decide +kernel) rfl rfl (Nat.le_of_ble_eq_true rfl) dX5_init_59 (fun H locs hM hS => ?_)
      have hM : Hm G (va_up (va_up M9 q56 (some (.inl (G.2.1 4, 5, .inr (.inr (.inr (.inr (fun _ => none)))))))) a (some (.inr (5, [.ref (ad9 1 0), .ref (ad9 3 0), .ref q56, .null, .int 0])))) H := hM
      have f59_28 : (va_up (va_up M9 q56 (some (.inl (G.2.1 4, 5, .inr (.inr (.inr (.inr (fun _ => none)))))))) a (some (.inr (5, [.ref (ad9 1 0), .ref (ad9 3 0), .ref q56, .null, .int 0])))) a = some (.inr (5, [.ref (ad9 1 0), .ref (ad9 3 0), .ref q56, .null, .int 0])) := up_eq
      have f59_29 : (va_up (va_up M9 q56 (some (.inl (G.2.1 4, 5, .inr (.inr (.inr (.inr (fun _ => none)))))))) a (some (.inr (5, [.ref (ad9 1 0), .ref (ad9 3 0), .ref q56, .null, .int 0])))) q56 = some (.inl (G.2.1 4, 5, .inr (.inr (.inr (.inr (fun _ => none)))))) := (up_ne (fun h9 => absurd (Eq.trans (Eq.trans (Eq.symm f56_q26) (congrArg (va_up M9 q56 (some (.inl (G.2.1 4, 5, .inr (.inr (.inr (.inr (fun _ => none)))))))) h9)) f56_25) (by simp))).trans f56_q26
      refine lv_iconst (v := 0) hx hb dX5_init_62 (by decide) ?_
      refine lv_istore_n (lv' := [(1, .int 0), (0, .ref a)]) hx hb dX5_init_63 rfl hl (by decide) rfl (fun ls hl => ?_)
      have hwi := (hw9.add 5 0 hn56 (.inl (G.2.1 4, 5, .inr (.inr (.inr (.inr (fun _ => none))))))).up 0 0 (e := .inr (5, [.ref (ad9 1 0), .ref (ad9 3 0), .ref q56, .null, .int 0])) (e0 := .inr (5, [.ref (ad9 1 0), .ref (ad9 3 0), .null, .null, .int 0])) rfl
      rw [show (u2 ad9 5 0 q56) 0 0 = a from ha9] at hwi
      have hwj : WI M a (cI G.2.1 (u2 ad9 5 0 q56) 1 0 4 0) (u2 ad9 5 0 q56) (va_up (va_up M9 q56 (some (.inl (G.2.1 4, 5, .inr (.inr (.inr (.inr (fun _ => none)))))))) a (some (.inr (5, [.ref (ad9 1 0), .ref (ad9 3 0), .ref q56, .null, .int 0])))) := by
        refine hwi.same (fun k i => ?_)
        match k with
        | 0 => by_cases hz : i = 0 <;> simp [cI, lu, u2, hz]
        | 1 => by_cases hz : i = 0 <;> simp [cI, lu, u2, hz]
        | 2 => by_cases hz : i = 0 <;> simp [cI, lu, u2, hz]
        | 3 => by_cases hz : i = 0 <;> simp [cI, lu, u2, hz]
        | 4 => by_cases hz : i = 0 <;> simp [cI, lu, u2, hz]
        | 5 => by_cases hz : i = 0 <;> simp [cI, lu, u2, hz]
        | 6 => by_cases hz : i = 0 <;> simp [cI, lu, u2, hz]
        | 7 => by_cases hz : i = 0 <;> simp [cI, lu, u2, hz]
        | 8 => by_cases hz : i = 0 <;> simp [cI, lu, u2, hz]
        | 9 => by_cases hz : i = 0 <;> simp [cI, lu, u2, hz]
        | 10 => by_cases hz : i = 0 <;> simp [cI, lu, u2, hz]
        | k + 11 => simp [cI, lu]
      have loop2 : ∀ (n9 : Nat) (i9 : Nat) (M9 : Mp) (ad9 : Nat → Nat → Nat), i9 + n9 = 5 → ad9 0 0 = a → WI M a (cI G.2.1 ad9 1 0 4 i9) ad9 M9 → ∀ ls : Array Slot, lv_has ls 2 [(0, .ref a), (1, .int (nI i9))] → ∀ (H : Heap) (locs : List Loc), Hm G M9 H → va_S (AG G) s.heap H locs → W p l e { frames := 3, cells := 29, slots := 6099, locals := 60 } s m ([.ref a] : List Value).toArray below meth c H locs (8 + 4 * i9) (1024 + 1011 * i9) (MQ below (va_Qv (S := Mp) (fun M2 => ∃ ad2 : Nat → Nat → Nat, ad2 0 0 = a ∧ WI M a (cI G.2.1 ad2 1 1 4 5) ad2 M2) (Bm G (fun M2 => M2)) (AG G)) ([.ref a] : List Value).toArray s (29) (6099) (AG G)) (F0 m 64 ls []) := by
        intro n9
        induction n9 with
        | zero =>
          intro i9 M9 ad9 hn ha9 hw9 ls hl H locs hM hS
          have k0_30 : M9 a = some (.inr (5, [.ref (ad9 1 0), .ref (ad9 3 0), .ref (ad9 5 0), .null, .int 0])) := ha9 ▸ hw9.1 0 0 _ rfl
          have k5_30 : M9 (ad9 5 0) = some (.inl (G.2.1 4, 5, .inr (.inr (.inr (.inr (fun c => if c < i9 then some (ad9 6 c) else none)))))) := hw9.1 5 0 _ rfl
          refine lv_iload_n hx hb dX5_init_64 rfl (lv_at hl 1 rfl) ?_
          refine lv_aload_n hx hb dX5_init_65 rfl (lv_at hl 0 rfl) ?_
          refine m_get (ci := 5) (v := .ref (ad9 5 0)) (C := RX5) (T := TX5) (N := 5) (a := a) hx hb hts (by decide +kernel) hown hC hM k0_30 rfl 2 (by decide) (hts (.fieldLink RX5 27 "Forwardroll" "customers" "[LForwardroll$Customer;") (by decide +kernel)) (fun _ h9 => h9) rfl dX5_init_66 ?_
          refine m_alen (a := (ad9 5 0)) hx hb hC hM 4 rfl k5_30 (v := 5) rfl dX5_init_69 ?_
          refine lv_icmp_ge (tgt := 92) hx hb dX5_init_70 (by decide) (fun c_70 => ?_) (fun c_70 => False.elim (by exact c_70 (nI_le (a := 5) (by omega) (by omega))))
          have e5 : i9 = 5 := by omega
          refine W.widen (k := 28) (n := 6079) (by omega) (by omega) ?_
          rw [e5] at hw9
          have k0_32 : M9 a = some (.inr (5, [.ref (ad9 1 0), .ref (ad9 3 0), .ref (ad9 5 0), .null, .int 0])) := ha9 ▸ hw9.1 0 0 _ rfl
          refine lv_aload_n hx hb dX5_init_92 rfl (lv_at hl 0 rfl) ?_
          refine lv_bipush (v := 20) hx hb dX5_init_93 (by decide) ?_
          refine m_newq (C := RX4) hx hb hown (hts (.classLink RX5 32 RX4) (by decide +kernel)) (hC.ao 3 rfl) 6 hC rfl hM hS hC.1 (N' := 20) (by decide) (by decide) (Nat.le_of_ble_eq_true rfl) (Nat.le_of_ble_eq_true rfl) (Nat.le_of_ble_eq_true rfl) dX5_init_95 (fun q95 H hn95 hM hS => ?_)
          have hM : Hm G (va_up M9 q95 (some (.inl (G.2.1 6, 20, .inr (.inr (.inr (.inr (fun _ => none)))))))) H := hM
          have hne95_33 : a ≠ q95 := fun h9 => absurd (Eq.trans (Eq.trans (Eq.symm k0_32) (congrArg M9 h9)) hn95) (by simp)
          have f95_33 : (va_up M9 q95 (some (.inl (G.2.1 6, 20, .inr (.inr (.inr (.inr (fun _ => none)))))))) a = some (.inr (5, [.ref (ad9 1 0), .ref (ad9 3 0), .ref (ad9 5 0), .null, .int 0])) := (up_ne hne95_33).trans k0_32
          have f95_q34 : (va_up M9 q95 (some (.inl (G.2.1 6, 20, .inr (.inr (.inr (.inr (fun _ => none)))))))) q95 = some (.inl (G.2.1 6, 20, .inr (.inr (.inr (.inr (fun _ => none)))))) := up_eq
          refine m_putF (host := "") (ci := 5) (v := .ref q95) (ty := .array (.object "Forwardroll$Deal")) (C := RX5) (T := TX5) (N := 5) (a := a) hx hb hts (by decide +kernel) tyX5 tyX5_ok nmX5 hown hC hM hS f95_33 rfl 3 (by decide) (hts (.fieldLink RX5 34 "Forwardroll" "deals" "[LForwardroll$Deal;") (by decide +kernel)) (fun _ h9 => h9) rfl hin rfl (by decide +kernel) rfl rfl (Nat.le_of_ble_eq_true rfl) dX5_init_98 (fun H locs hM hS => ?_)
          have hM : Hm G (va_up (va_up M9 q95 (some (.inl (G.2.1 6, 20, .inr (.inr (.inr (.inr (fun _ => none)))))))) a (some (.inr (5, [.ref (ad9 1 0), .ref (ad9 3 0), .ref (ad9 5 0), .ref q95, .int 0])))) H := hM
          have f98_36 : (va_up (va_up M9 q95 (some (.inl (G.2.1 6, 20, .inr (.inr (.inr (.inr (fun _ => none)))))))) a (some (.inr (5, [.ref (ad9 1 0), .ref (ad9 3 0), .ref (ad9 5 0), .ref q95, .int 0])))) a = some (.inr (5, [.ref (ad9 1 0), .ref (ad9 3 0), .ref (ad9 5 0), .ref q95, .int 0])) := up_eq
          have f98_37 : (va_up (va_up M9 q95 (some (.inl (G.2.1 6, 20, .inr (.inr (.inr (.inr (fun _ => none)))))))) a (some (.inr (5, [.ref (ad9 1 0), .ref (ad9 3 0), .ref (ad9 5 0), .ref q95, .int 0])))) q95 = some (.inl (G.2.1 6, 20, .inr (.inr (.inr (.inr (fun _ => none)))))) := (up_ne (fun h9 => absurd (Eq.trans (Eq.trans (Eq.symm f95_q34) (congrArg (va_up M9 q95 (some (.inl (G.2.1 6, 20, .inr (.inr (.inr (.inr (fun _ => none)))))))) h9)) f95_33) (by simp))).trans f95_q34
          have hwi := (hw9.add 10 0 hn95 (.inl (G.2.1 6, 20, .inr (.inr (.inr (.inr (fun _ => none))))))).up 0 0 (e := .inr (5, [.ref (ad9 1 0), .ref (ad9 3 0), .ref (ad9 5 0), .ref q95, .int 0])) (e0 := .inr (5, [.ref (ad9 1 0), .ref (ad9 3 0), .ref (ad9 5 0), .null, .int 0])) rfl
          rw [show (u2 ad9 10 0 q95) 0 0 = a from ha9] at hwi
          have hwj : WI M a (cI G.2.1 (u2 ad9 10 0 q95) 1 1 4 5) (u2 ad9 10 0 q95) (va_up (va_up M9 q95 (some (.inl (G.2.1 6, 20, .inr (.inr (.inr (.inr (fun _ => none)))))))) a (some (.inr (5, [.ref (ad9 1 0), .ref (ad9 3 0), .ref (ad9 5 0), .ref q95, .int 0])))) := by
            refine hwi.same (fun k i => ?_)
            match k with
            | 0 => by_cases hz : i = 0 <;> simp [cI, lu, u2, hz]
            | 1 => by_cases hz : i = 0 <;> simp [cI, lu, u2, hz]
            | 2 => by_cases hz : i = 0 <;> simp [cI, lu, u2, hz]
            | 3 => by_cases hz : i = 0 <;> simp [cI, lu, u2, hz]
            | 4 => by_cases hz : i = 0 <;> simp [cI, lu, u2, hz]
            | 5 => by_cases hz : i = 0 <;> simp [cI, lu, u2, hz]
            | 6 => by_cases hz : i = 0 <;> simp [cI, lu, u2, hz]
            | 7 => by_cases hz : i = 0 <;> simp [cI, lu, u2, hz]
            | 8 => by_cases hz : i = 0 <;> simp [cI, lu, u2, hz]
            | 9 => by_cases hz : i = 0 <;> simp [cI, lu, u2, hz]
            | 10 => by_cases hz : i = 0 <;> simp [cI, lu, u2, hz]
            | k + 11 => simp [cI, lu]
          exact (r_v hx hb hr hlocks hS _ ⟨(u2 ad9 10 0 q95), ha9, hwj⟩ hM (Nat.le_of_ble_eq_true rfl) (Nat.le_of_ble_eq_true rfl) dX5_init_101)
        | succ n9 ih =>
          intro i9 M9 ad9 hn ha9 hw9 ls hl H locs hM hS
          have k0_38 : M9 a = some (.inr (5, [.ref (ad9 1 0), .ref (ad9 3 0), .ref (ad9 5 0), .null, .int 0])) := ha9 ▸ hw9.1 0 0 _ rfl
          have k5_38 : M9 (ad9 5 0) = some (.inl (G.2.1 4, 5, .inr (.inr (.inr (.inr (fun c => if c < i9 then some (ad9 6 c) else none)))))) := hw9.1 5 0 _ rfl
          refine lv_iload_n hx hb dX5_init_64 rfl (lv_at hl 1 rfl) ?_
          refine lv_aload_n hx hb dX5_init_65 rfl (lv_at hl 0 rfl) ?_
          refine m_get (ci := 5) (v := .ref (ad9 5 0)) (C := RX5) (T := TX5) (N := 5) (a := a) hx hb hts (by decide +kernel) hown hC hM k0_38 rfl 2 (by decide) (hts (.fieldLink RX5 27 "Forwardroll" "customers" "[LForwardroll$Customer;") (by decide +kernel)) (fun _ h9 => h9) rfl dX5_init_66 ?_
          refine m_alen (a := (ad9 5 0)) hx hb hC hM 4 rfl k5_38 (v := 5) rfl dX5_init_69 ?_
          refine lv_icmp_ge (tgt := 92) hx hb dX5_init_70 (by decide) (fun c_70 => False.elim (by exact nI_ge (a := i9) (b := 5) (by omega) (by omega) c_70)) (fun c_70 => ?_)
          refine lv_aload_n hx hb dX5_init_73 rfl (lv_at hl 0 rfl) ?_
          refine m_get (ci := 5) (v := .ref (ad9 5 0)) (C := RX5) (T := TX5) (N := 5) (a := a) hx hb hts (by decide +kernel) hown hC hM k0_38 rfl 2 (by decide) (hts (.fieldLink RX5 27 "Forwardroll" "customers" "[LForwardroll$Customer;") (by decide +kernel)) (fun _ h9 => h9) rfl dX5_init_74 ?_
          refine lv_iload_n hx hb dX5_init_77 rfl (lv_at hl 1 rfl) ?_
          refine m_new (ci := 3) (fs := [.int 0, .null, .null]) (C := RX3) (T := TX3) (N := 3) hx hb hts (by decide +kernel) tyX3 tyX3_ok hown (hts (.classLink RX5 25 RX3) (by decide +kernel)) (hts (.instantiable RX3 3) (by decide +kernel)) (hts (.initialized RX3) (by decide +kernel)) hC hM hS hC.1 rfl (fun j hj => by rcases (show j = 0 ∨ j = 1 ∨ j = 2 by omega) with rfl | rfl | rfl <;> rfl) ((by first | omega | (show _ ≤ 29; omega) | (show _ ≤ 6099; omega))) ((by first | omega | (show _ ≤ 29; omega) | (show _ ≤ 6099; omega))) dX5_init_78 (fun q78 H hn78 hM hS => ?_)
          have hM : Hm G (va_up M9 q78 (some (.inr (3, [.int 0, .null, .null])))) H := hM
          have hne78_40 : a ≠ q78 := fun h9 => absurd (Eq.trans (Eq.trans (Eq.symm k0_38) (congrArg M9 h9)) hn78) (by simp)
          have f78_40 : (va_up M9 q78 (some (.inr (3, [.int 0, .null, .null])))) a = some (.inr (5, [.ref (ad9 1 0), .ref (ad9 3 0), .ref (ad9 5 0), .null, .int 0])) := (up_ne hne78_40).trans k0_38
          have hne78_41 : (ad9 5 0) ≠ q78 := fun h9 => absurd (Eq.trans (Eq.trans (Eq.symm k5_38) (congrArg M9 h9)) hn78) (by simp)
          have f78_41 : (va_up M9 q78 (some (.inr (3, [.int 0, .null, .null])))) (ad9 5 0) = some (.inl (G.2.1 4, 5, .inr (.inr (.inr (.inr (fun c => if c < i9 then some (ad9 6 c) else none)))))) := (up_ne hne78_41).trans k5_38
          have f78_q42 : (va_up M9 q78 (some (.inr (3, [.int 0, .null, .null])))) q78 = some (.inr (3, [.int 0, .null, .null])) := up_eq
          refine lv_dup hx hb dX5_init_81 rfl ?_
          refine k_v (va_runIN (As := []) (rest := [.ref q78, .int (nI i9), .ref (ad9 5 0)]) ⟨hx, hb, hml, hown, hts⟩ (c_X3_init l G (va_up M9 q78 (some (.inr (3, [.int 0, .null, .null])))) q78 f78_q42) ⟨va_cnB 0 hts gX5_init_X3_init_n31 rfl rfl rfl (hC.w 14 rfl) (hts (.initialized RX3) (by decide +kernel)) (by decide +kernel) ⟨Nat.le_of_ble_eq_true rfl, Nat.le_of_ble_eq_true rfl⟩, rfl, hts (.instanceMethod yX3_init) (by decide +kernel)⟩ (preS_of hC hS hM) rfl rfl hl.1 rfl (lv_room (Nat.le_of_ble_eq_true rfl)) dX5_init_82 ⟨(by first | omega | (show _ ≤ 29; omega) | (show _ ≤ 6099; omega)), (by first | omega | (show _ ≤ 29; omega) | (show _ ≤ 6099; omega))⟩) hS (fun u82 H locs hp82 hM hS => ?_)
          obtain ⟨p1, p2, p3, d4, d5, d6⟩ := hp82
          obtain ⟨d1, m1⟩ := up_none p1
          obtain ⟨d2, m2⟩ := up_none p2
          obtain ⟨d3, m3⟩ := up_none p3
          obtain ⟨M8, eM8⟩ : ∃ z, z = va_up (va_up (va_up (va_up M9 q78 (some (.inr (3, [.int 1000000, .ref u82.1, .ref u82.2.1])))) u82.1 (some (.inl (G.2.1 5, 1002, .inr (.inr (.inr (.inr (fun _ => none)))))))) u82.2.1 (some (.inr (0, [.ref u82.2.2])))) u82.2.2 (some (.inl (G.2.1 1, 5, .inr (.inl (fun _ => 0))))) := ⟨_, rfl⟩
          have hM : Hm G M8 H := by rw [eM8]; rw [up2] at hM; exact hM
          have g5 : M8 (ad9 5 0) = some (.inl (G.2.1 4, 5, .inr (.inr (.inr (.inr (fun c => if c < i9 then some (ad9 6 c) else none)))))) := by rw [eM8, up_ne (ne_of k5_38 m3), up_ne (ne_of k5_38 m2), up_ne (ne_of k5_38 m1), up_ne (ne_of k5_38 hn78)]; exact k5_38
          have g78 : M8 q78 = some (.inr (3, [.int 1000000, .ref u82.1, .ref u82.2.1])) := by rw [eM8, up_ne (Ne.symm d3), up_ne (Ne.symm d2), up_ne (Ne.symm d1), up_eq]
          refine m_astq (a := (ad9 5 0)) (ci := 3) hx hb hC hM hS 4 rfl g5 g78 rfl (vp_in_nI (n := i9) (by omega) (by omega)) dX5_init_85 (fun H locs hM hS => ?_)
          have hM : Hm G (va_up M8 (ad9 5 0) (some (.inl (G.2.1 4, 5, .inr (.inr (.inr (.inr (va_up (fun c => if c < i9 then some (ad9 6 c) else none) (nI i9).toNatClampNeg (some q78))))))))) H := hM
          have f85_44 : (va_up M8 (ad9 5 0) (some (.inl (G.2.1 4, 5, .inr (.inr (.inr (.inr (va_up (fun c => if c < i9 then some (ad9 6 c) else none) (nI i9).toNatClampNeg (some q78))))))))) (ad9 5 0) = some (.inl (G.2.1 4, 5, .inr (.inr (.inr (.inr (va_up (fun c => if c < i9 then some (ad9 6 c) else none) (nI i9).toNatClampNeg (some q78))))))) := up_eq
          have f85_45 : (va_up M8 (ad9 5 0) (some (.inl (G.2.1 4, 5, .inr (.inr (.inr (.inr (va_up (fun c => if c < i9 then some (ad9 6 c) else none) (nI i9).toNatClampNeg (some q78))))))))) q78 = some (.inr (3, [.int 1000000, .ref u82.1, .ref u82.2.1])) := (up_ne (fun h9 => absurd (Eq.trans (Eq.trans (Eq.symm g78) (congrArg M8 h9)) g5) (by simp))).trans g78
          refine lv_iinc (v := ((nI i9) + 1)) (lv' := [(1, .int ((nI i9) + 1)), (0, .ref a)]) hx hb dX5_init_86 hl (k := 1) rfl rfl (by decide) rfl (fun ls hl => ?_)
          refine lv_goto (tgt := 64) hx hb dX5_init_89 (by decide) ?_
          have ei : (nI i9).toNatClampNeg = i9 := nI_clamp (by omega)
          rw [ei] at hM
          rw [show nI i9 + 1 = nI (i9 + 1) from nI_1 i9] at hl
          obtain ⟨ad8, h80, hw8⟩ := hw9.cus hn78 m1 m2 m3 d1 d2 d3 d4 d5 d6
          rw [← eM8] at hw8
          refine W.widen (k := 8 + 4 * (i9 + 1)) (n := 1024 + 1011 * (i9 + 1)) (by omega) (by omega) ?_
          exact ih (i9 + 1) _ ad8 (by omega) (h80.trans ha9) hw8 ls (lv_sub hl [1, 0] rfl) _ _ hM hS
      exact loop2 5 0 (va_up (va_up M9 q56 (some (.inl (G.2.1 4, 5, .inr (.inr (.inr (.inr (fun _ => none)))))))) a (some (.inr (5, [.ref (ad9 1 0), .ref (ad9 3 0), .ref q56, .null, .int 0])))) (u2 ad9 5 0 q56) rfl ha9 hwj ls (lv_sub hl [1, 0] rfl) _ _ hM hS
    | succ n9 ih =>
      intro i9 M9 ad9 hn ha9 hw9 ls hl H locs hM hS
      have k0_46 : M9 a = some (.inr (5, [.ref (ad9 1 0), .ref (ad9 3 0), .null, .null, .int 0])) := ha9 ▸ hw9.1 0 0 _ rfl
      have k3_46 : M9 (ad9 3 0) = some (.inl (G.2.1 3, 4, .inr (.inr (.inr (.inr (fun c => if c < i9 then some (ad9 4 c) else none)))))) := hw9.1 3 0 _ rfl
      refine lv_iload_n hx hb dX5_init_25 rfl (lv_at hl 1 rfl) ?_
      refine lv_aload_n hx hb dX5_init_26 rfl (lv_at hl 0 rfl) ?_
      refine m_get (ci := 5) (v := .ref (ad9 3 0)) (C := RX5) (T := TX5) (N := 5) (a := a) hx hb hts (by decide +kernel) hown hC hM k0_46 rfl 1 (by decide) (hts (.fieldLink RX5 18 "Forwardroll" "currencies" "[LForwardroll$Currency;") (by decide +kernel)) (fun _ h9 => h9) rfl dX5_init_27 ?_
      refine m_alen (a := (ad9 3 0)) hx hb hC hM 3 rfl k3_46 (v := 4) rfl dX5_init_30 ?_
      refine lv_icmp_ge (tgt := 54) hx hb dX5_init_31 (by decide) (fun c_31 => False.elim (by exact nI_ge (a := i9) (b := 4) (by omega) (by omega) c_31)) (fun c_31 => ?_)
      refine lv_aload_n hx hb dX5_init_34 rfl (lv_at hl 0 rfl) ?_
      refine m_get (ci := 5) (v := .ref (ad9 3 0)) (C := RX5) (T := TX5) (N := 5) (a := a) hx hb hts (by decide +kernel) hown hC hM k0_46 rfl 1 (by decide) (hts (.fieldLink RX5 18 "Forwardroll" "currencies" "[LForwardroll$Currency;") (by decide +kernel)) (fun _ h9 => h9) rfl dX5_init_35 ?_
      refine lv_iload_n hx hb dX5_init_38 rfl (lv_at hl 1 rfl) ?_
      refine m_new (ci := 2) (fs := [.int 0, .int 0, .int 0]) (C := RX2) (T := TX2) (N := 3) hx hb hts (by decide +kernel) tyX2 tyX2_ok hown (hts (.classLink RX5 16 RX2) (by decide +kernel)) (hts (.instantiable RX2 3) (by decide +kernel)) (hts (.initialized RX2) (by decide +kernel)) hC hM hS hC.1 rfl (fun j hj => by rcases (show j = 0 ∨ j = 1 ∨ j = 2 by omega) with rfl | rfl | rfl <;> rfl) ((by first | omega | (show _ ≤ 29; omega) | (show _ ≤ 6099; omega))) ((by first | omega | (show _ ≤ 29; omega) | (show _ ≤ 6099; omega))) dX5_init_39 (fun q39 H hn39 hM hS => ?_)
      have hM : Hm G (va_up M9 q39 (some (.inr (2, [.int 0, .int 0, .int 0])))) H := hM
      have hne39_48 : a ≠ q39 := fun h9 => absurd (Eq.trans (Eq.trans (Eq.symm k0_46) (congrArg M9 h9)) hn39) (by simp)
      have f39_48 : (va_up M9 q39 (some (.inr (2, [.int 0, .int 0, .int 0])))) a = some (.inr (5, [.ref (ad9 1 0), .ref (ad9 3 0), .null, .null, .int 0])) := (up_ne hne39_48).trans k0_46
      have hne39_49 : (ad9 3 0) ≠ q39 := fun h9 => absurd (Eq.trans (Eq.trans (Eq.symm k3_46) (congrArg M9 h9)) hn39) (by simp)
      have f39_49 : (va_up M9 q39 (some (.inr (2, [.int 0, .int 0, .int 0])))) (ad9 3 0) = some (.inl (G.2.1 3, 4, .inr (.inr (.inr (.inr (fun c => if c < i9 then some (ad9 4 c) else none)))))) := (up_ne hne39_49).trans k3_46
      have f39_q50 : (va_up M9 q39 (some (.inr (2, [.int 0, .int 0, .int 0])))) q39 = some (.inr (2, [.int 0, .int 0, .int 0])) := up_eq
      refine lv_dup hx hb dX5_init_42 rfl ?_
      refine lv_iload_n hx hb dX5_init_43 rfl (lv_at hl 1 rfl) ?_
      refine k_v (va_runI (As := [.int (nI i9)]) (rest := [.ref q39, .int (nI i9), .ref (ad9 3 0)]) ⟨hx, hb, hml, hown, hts⟩ (c_X2_init l G (va_up M9 q39 (some (.inr (2, [.int 0, .int 0, .int 0])))) q39 (nI i9) f39_q50) (cwI 1 hts gX5_init_X2_init rfl rfl rfl (hts (.initialized RX2) (by decide +kernel)) (hts (.methodLink RX5 22 yX2_init) (by decide +kernel)) (hts (.instanceMethod yX2_init) (by decide +kernel)) rfl (by decide +kernel) ⟨Nat.le_of_ble_eq_true rfl, Nat.le_of_ble_eq_true rfl⟩) (preS_of hC hS hM) rfl rfl hl.1 rfl (lv_room (Nat.le_of_ble_eq_true rfl)) dX5_init_44 ⟨(by first | omega | (show _ ≤ 29; omega) | (show _ ≤ 6099; omega)), (by first | omega | (show _ ≤ 29; omega) | (show _ ≤ 6099; omega))⟩) hS (fun u44 H locs hp44 hM hS => ?_)
      have hM : Hm G (va_up M9 q39 (some (.inr (2, [.int (nI i9), .int 10000, .int 0])))) H := up2 ▸ hM
      have f44_52 : (va_up M9 q39 (some (.inr (2, [.int (nI i9), .int 10000, .int 0])))) a = some (.inr (5, [.ref (ad9 1 0), .ref (ad9 3 0), .null, .null, .int 0])) := (up_ne hne39_48).trans k0_46
      have f44_53 : (va_up M9 q39 (some (.inr (2, [.int (nI i9), .int 10000, .int 0])))) (ad9 3 0) = some (.inl (G.2.1 3, 4, .inr (.inr (.inr (.inr (fun c => if c < i9 then some (ad9 4 c) else none)))))) := (up_ne hne39_49).trans k3_46
      have f44_54 : (va_up M9 q39 (some (.inr (2, [.int (nI i9), .int 10000, .int 0])))) q39 = some (.inr (2, [.int (nI i9), .int 10000, .int 0])) := up_eq
      refine m_astq (a := (ad9 3 0)) (ci := 2) hx hb hC hM hS 3 rfl f44_53 f44_54 rfl (vp_in_nI (n := i9) (by omega) (by omega)) dX5_init_47 (fun H locs hM hS => ?_)
      have hM : Hm G (va_up (va_up M9 q39 (some (.inr (2, [.int (nI i9), .int 10000, .int 0])))) (ad9 3 0) (some (.inl (G.2.1 3, 4, .inr (.inr (.inr (.inr (va_up (fun c => if c < i9 then some (ad9 4 c) else none) (nI i9).toNatClampNeg (some q39))))))))) H := hM
      have f47_56 : (va_up (va_up M9 q39 (some (.inr (2, [.int (nI i9), .int 10000, .int 0])))) (ad9 3 0) (some (.inl (G.2.1 3, 4, .inr (.inr (.inr (.inr (va_up (fun c => if c < i9 then some (ad9 4 c) else none) (nI i9).toNatClampNeg (some q39))))))))) a = some (.inr (5, [.ref (ad9 1 0), .ref (ad9 3 0), .null, .null, .int 0])) := (up_ne (fun h9 => absurd (Eq.trans (Eq.trans (Eq.symm f44_52) (congrArg (va_up M9 q39 (some (.inr (2, [.int (nI i9), .int 10000, .int 0])))) h9)) f44_53) (by simp))).trans f44_52
      have f47_57 : (va_up (va_up M9 q39 (some (.inr (2, [.int (nI i9), .int 10000, .int 0])))) (ad9 3 0) (some (.inl (G.2.1 3, 4, .inr (.inr (.inr (.inr (va_up (fun c => if c < i9 then some (ad9 4 c) else none) (nI i9).toNatClampNeg (some q39))))))))) (ad9 3 0) = some (.inl (G.2.1 3, 4, .inr (.inr (.inr (.inr (va_up (fun c => if c < i9 then some (ad9 4 c) else none) (nI i9).toNatClampNeg (some q39))))))) := up_eq
      have f47_58 : (va_up (va_up M9 q39 (some (.inr (2, [.int (nI i9), .int 10000, .int 0])))) (ad9 3 0) (some (.inl (G.2.1 3, 4, .inr (.inr (.inr (.inr (va_up (fun c => if c < i9 then some (ad9 4 c) else none) (nI i9).toNatClampNeg (some q39))))))))) q39 = some (.inr (2, [.int (nI i9), .int 10000, .int 0])) := (up_ne (fun h9 => absurd (Eq.trans (Eq.trans (Eq.symm f44_54) (congrArg (va_up M9 q39 (some (.inr (2, [.int (nI i9), .int 10000, .int 0])))) h9)) f44_53) (by simp))).trans f44_54
      refine lv_iinc (v := ((nI i9) + 1)) (lv' := [(1, .int ((nI i9) + 1)), (0, .ref a)]) hx hb dX5_init_48 hl (k := 1) rfl rfl (by decide) rfl (fun ls hl => ?_)
      refine lv_goto (tgt := 25) hx hb dX5_init_51 (by decide) ?_
      have ei : (nI i9).toNatClampNeg = i9 := nI_clamp (by omega)
      rw [ei] at hM
      rw [show nI i9 + 1 = nI (i9 + 1) from nI_1 i9] at hl
      obtain ⟨ad8, h80, hw8⟩ := hw9.cur hn39
      refine W.widen (k := 3 + (i9 + 1)) (n := 1007 + 3 * (i9 + 1)) (by omega) (by omega) ?_
      exact ih (i9 + 1) _ ad8 (by omega) (h80.trans ha9) hw8 ls (lv_sub hl [1, 0] rfl) _ _ hM hS
  exact loop 4 0 (va_up (va_up (va_up (va_up (va_up (va_up M q5 (some (.inr (1, [.null, .int 0])))) u9 (some (.inl (G.2.1 2, 1001, .inl (fun _ => 0))))) q5 (some (.inr (1, [.ref u9, .int 0])))) a (some (.inr (5, [.ref q5, .null, .null, .null, .int 0])))) q17 (some (.inl (G.2.1 3, 4, .inr (.inr (.inr (.inr (fun _ => none)))))))) a (some (.inr (5, [.ref q5, .ref q17, .null, .null, .int 0])))) (u2 (u2 (u2 (fun _ _ => a) 1 0 q5) 2 0 u9) 3 0 q17) rfl rfl hwj ls (lv_sub hl [1, 0] rfl) _ _ hM hS
