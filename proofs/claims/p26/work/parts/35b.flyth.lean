/-! how far a leap goes, how high, how long -/
theorem max2_nI {a b : Nat} (ha : a < 1000) (hb : b < 1000) : max2 (nI a) (nI b) = nI (max a b) := by
  unfold max2
  by_cases h : nI a < nI b
  · rw [if_pos h]
    have := (nI_ltI (by omega) (by omega)).mp h
    rw [show max a b = b by omega]
  · rw [if_neg h]
    have := le_of_nlt (by omega) (by omega) h
    rw [show max a b = a by omega]
theorem side_d {B : Int32 → Int32 → Bool} (hB : OutB B) {d rr : Int32} (hd : d = 1 ∨ d = -1) : ∀ (n c : Nat), c < 20 → ∃ c' k : Nat, (sideF B d rr n (nI c)).1 = nI c' ∧ c' < 20 ∧ k ≤ n ∧ ((d = 1 ∧ c' = c + k) ∨ (d = -1 ∧ c = c' + k)) ∧ ((sideF B d rr n (nI c)).2 = false → k = n) := by
  intro n
  induction n with
  | zero =>
    intro c hc
    refine ⟨c, 0, rfl, hc, Nat.le_refl _, ?_, fun _ => rfl⟩
    rcases hd with h | h
    · exact Or.inl ⟨h, rfl⟩
    · exact Or.inr ⟨h, rfl⟩
  | succ n ih =>
    intro c hc
    rw [sideF]
    by_cases q : B (nI c + d) rr = true
    · rw [if_pos q]
      refine ⟨c, 0, rfl, hc, Nat.zero_le _, ?_, fun z => by cases z⟩
      rcases hd with h | h
      · exact Or.inl ⟨h, rfl⟩
      · exact Or.inr ⟨h, rfl⟩
    · rw [if_neg q]
      obtain ⟨c1, r1, hc1, -, e1, -⟩ := hB _ _ (not_t q)
      rw [e1]
      obtain ⟨c', k, a1, a2, a3, a4, a5⟩ := ih c1 hc1
      refine ⟨c', k + 1, a1, a2, by omega, ?_, fun z => by rw [a5 z]⟩
      rcases hd with h | h
      · subst h
        have e2 : c1 = c + 1 := nI_inj (by omega) (by omega) (by rw [← e1, nI_1])
        rcases a4 with ⟨_, b⟩ | ⟨b, _⟩
        · exact Or.inl ⟨rfl, by omega⟩
        · exact absurd b (by decide)
      · subst h
        have e2 : c = c1 + 1 := nI_inj (by omega) (by omega) (by rw [nI_succ, ← e1, Int32.add_assoc, show (-1 : Int32) + 1 = 0 by decide, Int32.add_zero])
        rcases a4 with ⟨b, _⟩ | ⟨_, b⟩
        · exact absurd b (by decide)
        · exact Or.inr ⟨rfl, by omega⟩
/-- what a flight tells: columns, rows, ticks, top row, how far -/
def FlyF (d : Int32) (c0 su tt tp n : Nat) (R : FS) : Prop := ∃ c' j' t' p' k' : Nat, R.1 = nI c' ∧ R.2.1 = nI j' ∧ R.2.2.1 = nI t' ∧ R.2.2.2.1 = nI p' ∧ j' ≤ p' ∧ tp ≤ p' ∧ p' < 10 ∧ tt ≤ t' ∧ t' ≤ tt + n ∧ ((d = 1 ∧ c' = c0 + k') ∨ (d = -1 ∧ c0 = c' + k')) ∧ k' ≤ su * t' ∧ (R.2.2.2.2.1 = false → k' = su * t') ∧ c' < 20 ∧ j' < 10 ∧ (1 ≤ n → tt + 1 ≤ t')
theorem FlyF.step {d : Int32} {c0 su tt tp tp' n : Nat} {R : FS} (hp : tp ≤ tp') (h : FlyF d c0 su (tt + 1) tp' n R) : FlyF d c0 su tt tp (n + 1) R := by
  obtain ⟨c', j', t', p', k', h1, h2, h3, h4, h5, h6, h7, h8, h9, h10, h11, h12, h13, h14, h15⟩ := h
  exact ⟨c', j', t', p', k', h1, h2, h3, h4, h5, by omega, h7, by omega, by omega, h10, h11, h12, h13, h14, fun _ => by omega⟩
theorem fly_side {B : Int32 → Int32 → Bool} (hB : OutB B) {d : Int32} (hd : d = 1 ∨ d = -1) {su c0 c j tt k : Nat} {me : Bool} {sp : Int32} (hsu : su ≤ 4) (hc : c < 20) (h : B (nI c) (nI j) = false)
    (hk : (d = 1 ∧ c = c0 + k) ∨ (d = -1 ∧ c0 = c + k)) (hks : k ≤ su * tt) (hm0 : me = false → k = su * tt ∧ sp = nI su) (hm1 : me = true → sp = 0) :
    ∃ c' k' : Nat, (sideF B d (nI j) sp.toNatClampNeg (nI c)).1 = nI c' ∧ c' < 20 ∧ B (nI c') (nI j) = false ∧ ((d = 1 ∧ c' = c0 + k') ∨ (d = -1 ∧ c0 = c' + k')) ∧ k' ≤ su * (tt + 1) ∧
      ((me || (sideF B d (nI j) sp.toNatClampNeg (nI c)).2) = false → k' = su * (tt + 1) ∧ (if (sideF B d (nI j) sp.toNatClampNeg (nI c)).2 = true then 0 else sp) = nI su) ∧
      ((me || (sideF B d (nI j) sp.toNatClampNeg (nI c)).2) = true → (if (sideF B d (nI j) sp.toNatClampNeg (nI c)).2 = true then 0 else sp) = 0) := by
  obtain ⟨c', k1, a1, a2, a3, a4, a5⟩ := side_d (rr := nI j) hB hd sp.toNatClampNeg c hc
  have hf := sideF_free (d := d) sp.toNatClampNeg (nI c) h
  rw [a1] at hf
  have e0 : su * (tt + 1) = su * tt + su := Nat.mul_succ su tt
  refine ⟨c', k + k1, a1, a2, hf, ?_, ?_, fun q => ?_, fun q => ?_⟩
  · rcases hk with ⟨b1, b2⟩ | ⟨b1, b2⟩
    · rcases a4 with ⟨_, z⟩ | ⟨z, _⟩
      · exact Or.inl ⟨b1, by omega⟩
      · rw [b1] at z; exact absurd z (by decide)
    · rcases a4 with ⟨z, _⟩ | ⟨_, z⟩
      · rw [b1] at z; exact absurd z (by decide)
      · exact Or.inr ⟨b1, by omega⟩
  · cases me
    · rw [(hm0 rfl).2, nI_clamp (by omega)] at a3
      omega
    · rw [hm1 rfl] at a3
      have a3 : k1 ≤ 0 := a3
      omega
  · rw [Bool.or_eq_false_iff] at q
    obtain ⟨b1, b2⟩ := hm0 q.1
    rw [q.2, if_neg Bool.false_ne_true]
    have a5 := a5 q.2
    rw [b2, nI_clamp (by omega)] at a5
    exact ⟨by omega, b2⟩
  · rw [Bool.or_eq_true] at q
    by_cases z : (sideF B d (nI j) sp.toNatClampNeg (nI c)).2 = true
    · rw [if_pos z]
    · rw [if_neg z]
      rcases q with q | q
      · exact hm1 q
      · exact absurd q z
theorem fly_facts {B : Int32 → Int32 → Bool} (hB : OutB B) {d : Int32} (hd : d = 1 ∨ d = -1) {f s su c0 : Nat} (hf : f < 6 ∧ 1 ≤ f) (hs : s < 6 ∧ 1 ≤ s) (hsu : su ≤ 4) : ∀ (n a c j tt tp k : Nat) (me : Bool) (sp : Int32) (R : FS), B (nI c) (nI j) = false → c < 20 → j < 10 → a < 10 → j ≤ tp → tp < 10 →
    ((d = 1 ∧ c = c0 + k) ∨ (d = -1 ∧ c0 = c + k)) → k ≤ su * tt → (me = false → k = su * tt ∧ sp = nI su) → (me = true → sp = 0) → R = flyF B d (nI f) (nI s) n (nI c) (nI j) (nI tt) (nI tp) me sp (nI a - 5) → FlyF d c0 su tt tp n R := by
  intro n
  induction n with
  | zero =>
    intro a c j tt tp k me sp R h hc hj ha hjt htp hk hks hm0 hm1 hR
    rw [hR]
    exact ⟨c, j, tt, tp, k, rfl, rfl, rfl, rfl, hjt, Nat.le_refl _, htp, Nat.le_refl _, Nat.le_refl _, hk, hks, (fun q => (hm0 q).1), hc, hj, (fun q => by omega)⟩
  | succ n ih =>
    intro a c j tt tp k me sp R h hc hj ha hjt htp hk hks hm0 hm1 hR
    obtain ⟨c1, k1, b1, b2, b3, b4, b5, b6, b7⟩ := fly_side (tt := tt) hB hd hsu hc h hk hks hm0 hm1
    rw [flyF, b1, nI_1] at hR
    generalize (sideF B d (nI j) sp.toNatClampNeg (nI c)).2 = wm at hR b6 b7
    by_cases hp : 5 < a
    · rw [if_pos ((ri_pos a ha).mpr hp)] at hR
      obtain ⟨j2, e1, e2, e3, e4⟩ := upF_spec hB (nI a - 5).toNatClampNeg j hj b3
      rw [e1, max2_nI (by omega) (by omega)] at hR
      generalize (upF B (nI c1) (nI a - 5).toNatClampNeg (nI j)).2 = hit at hR
      refine FlyF.step (tp' := max tp j2) (by omega) ?_
      cases hit
      · rw [if_neg Bool.false_ne_true, ri_next a ha f hf.1 hf.2] at hR
        exact ih _ _ _ _ _ _ _ _ R e4 b2 e3 (by omega) (by omega) (by omega) b4 b5 b6 b7 hR
      · rw [if_pos rfl, ri_hit f hf.1 hf.2] at hR
        exact ih _ _ _ _ _ _ _ _ R e4 b2 e3 (by omega) (by omega) (by omega) b4 b5 b6 b7 hR
    · rw [if_neg (fun q => hp ((ri_pos a ha).mp q)), ri_next a ha f hf.1 hf.2] at hR
      obtain ⟨j2, e1, e2, e3, e4, e5⟩ := downF_spec hB (stepsF (me || wm) (nI a - 5) (nI s)) j hj b3
      rw [e1, max2_nI (by omega) (by omega)] at hR
      by_cases q : (downF B (nI c1) (stepsF (me || wm) (nI a - 5) (nI s)) (nI j)).2 = true
      · rw [if_pos q] at hR
        rw [hR]
        exact ⟨c1, j2, tt + 1, max tp j2, k1, rfl, rfl, rfl, rfl, by omega, by omega, by omega, by omega, by omega, b4, b5, (fun z => (b6 z).1), b2, by omega, fun _ => Nat.le_refl _⟩
      · rw [if_neg q] at hR
        exact FlyF.step (tp' := max tp j2) (by omega) (ih _ _ _ _ _ _ _ _ R e3 b2 (by omega) (by omega) (by omega) (by omega) b4 b5 b6 b7 hR)
/-- a flight from a cell in which one can stand -/
theorem flyR_facts {B : Int32 → Int32 → Bool} (hB : OutB B) {a f s d : Int32} (hse : SeR a f s) (hd : d = 1 ∨ d = -1) {c r u : Nat} (hc : c < 20) (hr : r < 10) (hu : u ≤ 3) (hS : stB B (nI c) (nI r) = true) :
    ∃ c' j' t' p' k' : Nat, (flyR B a f s d c r u).1 = nI c' ∧ (flyR B a f s d c r u).2.1 = nI j' ∧ (flyR B a f s d c r u).2.2.1 = nI t' ∧ (flyR B a f s d c r u).2.2.2.1 = nI p' ∧ stB B (nI c') (nI j') = true ∧ c' < 20 ∧ j' < 10 ∧ j' ≤ p' ∧ r ≤ p' ∧ p' < 10 ∧ 2 ≤ t' ∧ t' ≤ 100 ∧
      ((d = 1 ∧ c' = c + k') ∨ (d = -1 ∧ c = c' + k')) ∧ k' ≤ (u + 1) * t' ∧ ((flyR B a f s d c r u).2.2.2.2.1 = false → k' = (u + 1) * t') := by
  have hi : 20 * r + c < 200 := by omega
  obtain ⟨jj, hjj, hSj, x1, x2⟩ := flyR_land (d := d) hB hse hi (by rw [SB_rc hc]; exact hS) u
  rw [show (20 * r + c) % 20 = c by omega, show (20 * r + c) / 20 = r by omega] at x1 x2
  have hfree : B (nI c) (nI r) = false := by
    unfold stB at hS
    rw [Bool.and_eq_true] at hS
    exact f_of_not hS.1
  obtain ⟨na, nf, ns, h1, h2, h3, rfl, rfl, rfl⟩ := hse
  have key : FlyF d c (u + 1) 0 r 100 (flyR B (nI na) (nI nf) (nI ns) d c r u) ∧ ∃ tp, r ≤ tp ∧ FlyF d c (u + 1) 1 tp 99 (flyR B (nI na) (nI nf) (nI ns) d c r u) := by
    have hR : flyR B (nI na) (nI nf) (nI ns) d c r u = flyF B d (nI nf) (nI ns) 100 (nI c) (nI r) (nI 0) (nI r) false (nI (u + 1)) (nI (na + 5) - 5) := by
      unfold flyR
      rw [nI_1, ← ri_init na h1.1]; rfl
    refine ⟨fly_facts hB hd h2 h3 (by omega) 100 (na + 5) c r 0 r 0 false (nI (u + 1)) _ hfree hc hr (by omega) (Nat.le_refl _) hr (hd.imp (fun h => ⟨h, rfl⟩) (fun h => ⟨h, rfl⟩)) (Nat.zero_le _) (fun _ => ⟨rfl, rfl⟩) (fun q => by cases q) hR, ?_⟩
    obtain ⟨c1, k1, b1, b2, b3, b4, b5, b6, b7⟩ := fly_side (tt := 0) (k := 0) (c0 := c) (me := false) (sp := nI (u + 1)) hB hd (show u + 1 ≤ 4 by omega) hc hfree (hd.imp (fun h => ⟨h, rfl⟩) (fun h => ⟨h, rfl⟩)) (Nat.zero_le _) (fun _ => ⟨rfl, rfl⟩) (fun q => by cases q)
    rw [flyF, b1, nI_1] at hR
    generalize (sideF B d (nI r) (nI (u + 1)).toNatClampNeg (nI c)).2 = wm at hR b6 b7
    rw [if_pos ((ri_pos (na + 5) (by omega)).mpr (by omega))] at hR
    obtain ⟨j2, e1, e2, e3, e4⟩ := upF_spec hB (nI (na + 5) - 5).toNatClampNeg r hr b3
    rw [e1, max2_nI (by omega) (by omega)] at hR
    generalize (upF B (nI c1) (nI (na + 5) - 5).toNatClampNeg (nI r)).2 = hit at hR
    refine ⟨max r j2, by omega, ?_⟩
    cases hit
    · rw [if_neg Bool.false_ne_true, ri_next (na + 5) (by omega) nf h2.1 h2.2] at hR
      exact fly_facts hB hd h2 h3 (by omega) 99 _ c1 j2 1 (max r j2) k1 _ _ _ e4 b2 e3 (by omega) (by omega) (by omega) b4 b5 b6 b7 hR
    · rw [if_pos rfl, ri_hit nf h2.1 h2.2] at hR
      exact fly_facts hB hd h2 h3 (by omega) 99 _ c1 j2 1 (max r j2) k1 _ _ _ e4 b2 e3 (by omega) (by omega) (by omega) b4 b5 b6 b7 hR
  obtain ⟨-, tp, htp, c', j', t', p', k', g1, g2, g3, g4, g5, g6, g7, g8, g9, g10, g11, g12, g13, g14, g15⟩ := key
  have y1 : jj % 20 = c' := nI_inj (by omega) (by omega) (x1.symm.trans g1)
  have y2 : jj / 20 = j' := nI_inj (by omega) (by omega) (x2.symm.trans g2)
  have hSt : stB B (nI c') (nI j') = true := by rw [← y1, ← y2]; exact hSj
  exact ⟨c', j', t', p', k', g1, g2, g3, g4, hSt, g13, g14, g5, by omega, g7, by have := g15 (by decide); omega, by omega, g10, g11, g12⟩
