/-! what the law asks of two ledges and a third -/
theorem least_ex {P : Nat → Prop} : ∀ {e : Nat}, P e → ∃ m, m ≤ e ∧ P m ∧ ∀ k, k < m → ¬ P k := by
  intro e
  induction e using Nat.strongRecOn with
  | _ e ih =>
    intro h
    by_cases q : ∃ k, k < e ∧ P k
    · obtain ⟨k, hk, hp⟩ := q
      obtain ⟨m, a, b, c⟩ := ih k hk hp
      exact ⟨m, by omega, b, c⟩
    · exact ⟨e, Nat.le_refl _, h, fun k hk hp => q ⟨k, hk, hp⟩⟩
theorem pa_cut {R : Nat → Nat → Bool} {n d a c : Nat} (ha : a < n) (hc : c < n) (h : Pa R n d a c) (hd : n ≤ d) : ∃ e, e < d ∧ Pa R n e a c := by
  obtain ⟨f, f0, fd, fr, fb⟩ := ((Wb.Pa (d := d) ha).mpr h).fn
  have fl : ∀ i, i < d + 1 → f i < n := fun i hi => by
    rcases (show i = 0 ∨ i = d ∨ (0 < i ∧ i < d) by omega) with rfl | rfl | z
    · rw [f0]; exact ha
    · rw [fd]; exact hc
    · exact fb i z.1 z.2
  obtain ⟨i, j, hij, hj, he⟩ := fb_twice (m := n) (n := d + 1) (f := f) fl (by omega)
  have h2 : Wb R n (d - (j - i)) ((fun k => if k ≤ i then f k else f (k + (j - i))) 0) ((fun k => if k ≤ i then f k else f (k + (j - i))) (d - (j - i))) := by
    refine Wb.of (f := fun k => if k ≤ i then f k else f (k + (j - i))) (fun k hk => ?_) (fun k h0 hk => ?_)
    · show R (if k ≤ i then f k else f (k + (j - i))) (if k + 1 ≤ i then f (k + 1) else f (k + 1 + (j - i))) = true
      by_cases z : k ≤ i
      · rw [if_pos z]
        by_cases z2 : k + 1 ≤ i
        · rw [if_pos z2]; exact fr k (by omega)
        · obtain rfl : k = i := by omega
          rw [if_neg z2, he, show k + 1 + (j - k) = j + 1 by omega]
          exact fr j (by omega)
      · rw [if_neg z, if_neg (by omega), show k + 1 + (j - i) = k + (j - i) + 1 by omega]
        exact fr _ (by omega)
    · show (if k ≤ i then f k else f (k + (j - i))) < n
      split
      · exact fl k (by omega)
      · exact fl _ (by omega)
  have e1 : (fun k => if k ≤ i then f k else f (k + (j - i))) 0 = a := by
    show (if 0 ≤ i then f 0 else _) = a
    rw [if_pos (by omega)]; exact f0
  have e2 : (fun k => if k ≤ i then f k else f (k + (j - i))) (d - (j - i)) = c := by
    show (if d - (j - i) ≤ i then f (d - (j - i)) else f (d - (j - i) + (j - i))) = c
    by_cases z : d - (j - i) ≤ i
    · rw [if_pos z, show d - (j - i) = i by omega, he, show j = d by omega]; exact fd
    · rw [if_neg z, show d - (j - i) + (j - i) = d by omega]; exact fd
  rw [e1, e2] at h2
  exact ⟨d - (j - i), by omega, (Wb.Pa ha).mp h2⟩
theorem pa_min {R : Nat → Nat → Bool} {n d a c : Nat} (ha : a < n) (hc : c < n) (h : Pa R n d a c) : ∃ m, m < n ∧ m ≤ d ∧ Pa R n m a c ∧ ∀ e, e < m → ¬ Pa R n e a c := by
  obtain ⟨m, h1, h2, h3⟩ := least_ex (P := fun e => Pa R n e a c) h
  refine ⟨m, Nat.lt_of_not_le fun q => ?_, h1, h2, h3⟩
  obtain ⟨e, h4, h5⟩ := pa_cut ha hc h2 q
  exact h3 e h4 h5
theorem d_spec {S : KS} {k a b : Nat} (ha : a < nS S) (hb : b < nS S) : (dS S k a b = -1 ∧ ∀ e, ¬ Pa (RS S k) (nS S) e a b) ∨ ∃ m, m < nS S ∧ dS S k a b = nI m ∧ Pa (RS S k) (nS S) m a b ∧ ∀ e, e < m → ¬ Pa (RS S k) (nS S) e a b := by
  have hn : nS S ≤ 100 := nL_le _
  by_cases q : ∃ e, Pa (RS S k) (nS S) e a b
  · obtain ⟨e, he⟩ := q
    obtain ⟨m, h1, -, h2, h3⟩ := pa_min ha hb he
    refine Or.inr ⟨m, h1, ?_, h2, h3⟩
    exact (IsD.toV (R := RS S k) (n := nS S) (o := a) (b := b) (x := nI m) (Or.inl ⟨m, by omega, rfl, h2, h3⟩)).symm
  · have q : ∀ e, ¬ Pa (RS S k) (nS S) e a b := fun e h => q ⟨e, h⟩
    exact Or.inl ⟨(IsD.toV (R := RS S k) (n := nS S) (o := a) (b := b) (x := -1) (Or.inr ⟨rfl, q⟩)).symm, q⟩
theorem pa_mono {R R' : Nat → Nat → Bool} {n : Nat} (h : ∀ x y, R x y = true → R' x y = true) : ∀ {d a c : Nat}, Pa R n d a c → Pa R' n d a c := by
  intro d
  induction d with
  | zero => intro a c q; exact q
  | succ d ih =>
    rintro a c ⟨v, hv, h1, h2⟩
    exact ⟨v, hv, ih h1, h _ _ h2⟩
theorem RS_mono {S : KS} {j k : Nat} (h : j ≤ k) {x y : Nat} (q : RS S j x y = true) : RS S k x y = true := by
  obtain ⟨u, hu, he⟩ := RS_iff.mp q
  exact RS_iff.mpr ⟨u, by omega, he⟩
/-- with a greater run-up never more leaps -/
theorem d_mono {S : KS} {j k a b l : Nat} (ha : a < nS S) (hb : b < nS S) (h : j ≤ k) (e : dS S j a b = nI l) (hl : l < 1000) : ∃ m, m < nS S ∧ dS S k a b = nI m ∧ m ≤ l := by
  have hn : nS S ≤ 100 := nL_le _
  rcases d_spec (k := j) ha hb with ⟨h1, -⟩ | ⟨m, h1, h2, h3, -⟩
  · rw [e] at h1; exact absurd h1 (nI_ne_m1 (by omega))
  · obtain rfl : m = l := nI_inj (by omega) (by omega) (h2.symm.trans e)
    have h4 := pa_mono (fun x y => RS_mono (S := S) h (x := x) (y := y)) h3
    rcases d_spec (k := k) ha hb with ⟨h5, h6⟩ | ⟨m', h5, h6, h7, h8⟩
    · exact absurd h4 (h6 m)
    · exact ⟨m', h5, h6, Nat.le_of_not_lt fun q => h8 _ q h4⟩
/-- nor than by a ledge between -/
theorem d_tri {S : KS} {k a b c x y : Nat} (ha : a < nS S) (hb : b < nS S) (hc : c < nS S) (e1 : dS S k a c = nI x) (hx : x < 1000) (e2 : dS S k c b = nI y) (hy : y < 1000) : ∃ m, m < nS S ∧ dS S k a b = nI m ∧ m ≤ x + y := by
  have hn : nS S ≤ 100 := nL_le _
  rcases d_spec (k := k) ha hc with ⟨h1, -⟩ | ⟨m1, h1, h2, h3, -⟩
  · rw [e1] at h1; exact absurd h1 (nI_ne_m1 (by omega))
  · obtain rfl : m1 = x := nI_inj (by omega) (by omega) (h2.symm.trans e1)
    rcases d_spec (k := k) hc hb with ⟨g1, -⟩ | ⟨m2, g1, g2, g3, -⟩
    · rw [e2] at g1; exact absurd g1 (nI_ne_m1 (by omega))
    · obtain rfl : m2 = y := nI_inj (by omega) (by omega) (g2.symm.trans e2)
      have h4 := h3.app g3
      rcases d_spec (k := k) ha hb with ⟨h5, h6⟩ | ⟨m', h5, h6, h7, h8⟩
      · exact absurd h4 (h6 _)
      · exact ⟨m', h5, h6, Nat.le_of_not_lt fun q => h8 _ q h4⟩
theorem d_zero {S : KS} {k a b : Nat} (ha : a < nS S) (hb : b < nS S) (h : dS S k a b = 0) : a = b := by
  have hn : nS S ≤ 100 := nL_le _
  rcases d_spec (k := k) ha hb with ⟨h1, -⟩ | ⟨m, h1, h2, h3, -⟩
  · rw [h] at h1; exact absurd h1 (by decide)
  · obtain rfl : m = 0 := nI_inj (by omega) (by decide) (h2.symm.trans h)
    exact h3
theorem d_1 {S : KS} {k a b : Nat} (ha : a < nS S) (hb : b < nS S) (h : dS S k a b = 1) : a ≠ b ∧ RS S k a b = true := by
  have hn : nS S ≤ 100 := nL_le _
  rcases d_spec (k := k) ha hb with ⟨h1, -⟩ | ⟨m, h1, h2, h3, h4⟩
  · rw [h] at h1; exact absurd h1 (by decide)
  · obtain rfl : m = 1 := nI_inj (by omega) (by decide) (h2.symm.trans h)
    obtain ⟨v, hv, h5, h6⟩ := h3
    have h5 : a = v := h5
    subst h5
    exact ⟨fun q => h4 0 (by decide) q, h6⟩
/-- all that one turn of the law's loop over run-ups asks: x the fewest leaps, sl the slowest run-up -/
theorem d_turn {S : KS} {u a b : Nat} {x sl : Int32} (ha : a < nS S) (hb : b < nS S) (hu : u ≤ 3) (hx : dS S u a b = x) (hs : slowS S a b = sl) :
    (x = 0 ↔ a = b) ∧ (x = 1 ↔ (¬ a = b ∧ ¬ sl < 0 ∧ sl ≤ nI u)) := by
  refine ⟨⟨fun q => d_zero ha hb (hx.trans q), fun q => by subst q; rw [← hx]; exact d_self⟩, fun q => ?_, fun q => ?_⟩
  · obtain ⟨h1, h2⟩ := d_1 ha hb (hx.trans q)
    obtain ⟨v, hv, he⟩ := RS_iff.mp h2
    rcases slow_spec S a b with ⟨-, g2⟩ | ⟨s1, g1, g2, g3, g4⟩
    · exact absurd he (g2 v)
    · have := g4 v he
      refine ⟨h1, ?_, ?_⟩
      · rw [← hs, g2]; exact nI_pos (by omega)
      · rw [← hs, g2]; exact (nI_leI (by omega) (by omega)).mpr (by omega)
  · obtain ⟨h1, h2, h3⟩ := q
    rw [← hx]
    rcases slow_spec S a b with ⟨g1, -⟩ | ⟨s1, g1, g2, g3, g4⟩
    · rw [← hs, g1] at h2; exact absurd (by decide) h2
    · rw [← hs, g2] at h3
      have := (nI_leI (by omega) (by omega)).mp h3
      exact d_one ha h1 (RS_iff.mpr ⟨s1, this, g3⟩)
