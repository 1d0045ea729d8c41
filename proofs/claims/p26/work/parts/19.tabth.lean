/-! the table of the fewest leaps -/
theorem fb_twice {m n : Nat} {f : Nat → Nat} (h : ∀ i, i < n → f i < m) (hm : m < n) : ∃ i j, i < j ∧ j < n ∧ f i = f j := by
  refine Classical.byContradiction fun hx => ?_
  have := fb_holes m n f h (fun i j hij hj e => hx ⟨i, j, hij, hj, e⟩)
  omega
theorem Wb.fn {R : Nat → Nat → Bool} {b : Nat} : ∀ {d a c : Nat}, Wb R b d a c → ∃ f : Nat → Nat, f 0 = a ∧ f d = c ∧ (∀ i, i < d → R (f i) (f (i + 1)) = true) ∧ ∀ i, 0 < i → i < d → f i < b := by
  intro d
  induction d with
  | zero => intro a c h; exact ⟨fun _ => a, rfl, h, fun i hi => absurd hi (Nat.not_lt_zero _), fun i _ hi => absurd hi (Nat.not_lt_zero _)⟩
  | succ d ih =>
    rintro a c (⟨rfl, h⟩ | ⟨v, hv, h1, h2⟩)
    · refine ⟨fun i => if i = 0 then a else c, rfl, rfl, fun i hi => ?_, fun i h0 hi => by omega⟩
      obtain rfl : i = 0 := by omega
      exact h
    · obtain ⟨f, f0, fd, fr, fb⟩ := ih h1
      refine ⟨fun i => if i = d + 1 then c else f i, ?_, if_pos rfl, fun i hi => ?_, fun i h0 hi => ?_⟩
      · show (if 0 = d + 1 then c else f 0) = a
        rw [if_neg (by omega)]; exact f0
      · show R (if i = d + 1 then c else f i) (if i + 1 = d + 1 then c else f (i + 1)) = true
        rw [if_neg (by omega)]
        rcases Nat.lt_or_ge i d with q | q
        · rw [if_neg (by omega)]; exact fr i q
        · obtain rfl : i = d := by omega
          rw [if_pos rfl, fd]; exact h2
      · show (if i = d + 1 then c else f i) < b
        rw [if_neg (by omega)]
        rcases Nat.lt_or_ge i d with q | q
        · exact fb i h0 q
        · obtain rfl : i = d := by omega
          rw [fd]; exact hv
theorem Wb.of {R : Nat → Nat → Bool} {b : Nat} : ∀ {d : Nat} {f : Nat → Nat}, (∀ i, i < d → R (f i) (f (i + 1)) = true) → (∀ i, 0 < i → i < d → f i < b) → Wb R b d (f 0) (f d) := by
  intro d
  induction d with
  | zero => intro f _ _; rfl
  | succ d ih =>
    intro f fr fb
    rcases Nat.eq_zero_or_pos d with q | q
    · subst q; exact Or.inl ⟨rfl, fr 0 (by omega)⟩
    · exact Or.inr ⟨f d, fb d q (by omega), ih (fun i hi => fr i (by omega)) (fun i h0 hi => fb i h0 (by omega)), fr d (by omega)⟩
theorem Wb.short {R : Nat → Nat → Bool} {b : Nat} : ∀ (m : Nat) {d a c : Nat}, d ≤ m → Wb R b d a c → ∃ e, e ≤ d ∧ e ≤ b + 1 ∧ Wb R b e a c := by
  intro m
  induction m with
  | zero => intro d a c hd h; exact ⟨d, Nat.le_refl _, by omega, h⟩
  | succ m ih =>
    intro d a c hd h
    rcases Nat.lt_or_ge d (b + 2) with q | q
    · exact ⟨d, Nat.le_refl _, by omega, h⟩
    · obtain ⟨f, f0, fd, fr, fb⟩ := h.fn
      obtain ⟨i, j, hij, hj, he⟩ := fb_twice (m := b) (n := d - 1) (f := fun i => f (i + 1)) (fun i hi => fb (i + 1) (by omega) (by omega)) (by omega)
      have he : f (i + 1) = f (j + 1) := he
      have h2 : Wb R b (d - (j - i)) ((fun k => if k ≤ i + 1 then f k else f (k + (j - i))) 0) ((fun k => if k ≤ i + 1 then f k else f (k + (j - i))) (d - (j - i))) := by
        refine Wb.of (f := fun k => if k ≤ i + 1 then f k else f (k + (j - i))) (fun k hk => ?_) (fun k h0 hk => ?_)
        · show R (if k ≤ i + 1 then f k else f (k + (j - i))) (if k + 1 ≤ i + 1 then f (k + 1) else f (k + 1 + (j - i))) = true
          by_cases z : k ≤ i + 1
          · rw [if_pos z]
            by_cases z2 : k + 1 ≤ i + 1
            · rw [if_pos z2]; exact fr k (by omega)
            · obtain rfl : k = i + 1 := by omega
              rw [if_neg z2, he, show i + 1 + 1 + (j - i) = j + 1 + 1 by omega]
              exact fr (j + 1) (by omega)
          · rw [if_neg z, if_neg (by omega), show k + 1 + (j - i) = k + (j - i) + 1 by omega]
            exact fr _ (by omega)
        · show (if k ≤ i + 1 then f k else f (k + (j - i))) < b
          split
          · exact fb k h0 (by omega)
          · exact fb _ (by omega) (by omega)
      have e1 : (fun k => if k ≤ i + 1 then f k else f (k + (j - i))) 0 = a := by
        show (if 0 ≤ i + 1 then f 0 else _) = a
        rw [if_pos (by omega)]; exact f0
      have e2 : (fun k => if k ≤ i + 1 then f k else f (k + (j - i))) (d - (j - i)) = c := by
        show (if d - (j - i) ≤ i + 1 then f (d - (j - i)) else f (d - (j - i) + (j - i))) = c
        by_cases z : d - (j - i) ≤ i + 1
        · have : d - (j - i) = i + 1 := by omega
          omega
        · rw [if_neg z, show d - (j - i) + (j - i) = d by omega]; exact fd
      rw [e1, e2] at h2
      obtain ⟨e, h3, h4, h5⟩ := ih (d := d - (j - i)) (by omega) h2
      exact ⟨e, by omega, h4, h5⟩
/-- an entry of the table: by ledges below b alone -/
def En (R : Nat → Nat → Bool) (b a c : Nat) (x : Int32) : Prop := (x = -1 ∧ ∀ d, ¬ Wb R b d a c) ∨ ∃ d, d ≤ b + 1 ∧ x = nI d ∧ Wb R b d a c ∧ ∀ e, Wb R b e a c → d ≤ e
theorem Wb.app {R : Nat → Nat → Bool} {b : Nat} : ∀ {d2 d1 a c : Nat}, Wb R (b + 1) d1 a b → Wb R (b + 1) d2 b c → Wb R (b + 1) (d1 + d2) a c := by
  intro d2
  induction d2 with
  | zero => intro d1 a c h1 h2; have h2 : b = c := h2; subst h2; exact h1
  | succ d2 ih =>
    rintro d1 a c h1 (⟨rfl, h⟩ | ⟨v, hv, h2, h3⟩)
    · exact Or.inr ⟨b, by omega, h1, h⟩
    · exact Or.inr ⟨v, hv, ih h1 h2, h3⟩
theorem En.init {R : Nat → Nat → Bool} {a c : Nat} {x : Int32} (hx : x = if a = c then 0 else if R a c = true then 1 else -1) : En R 0 a c x := by
  subst hx
  by_cases e : a = c
  · rw [if_pos e]
    exact Or.inr ⟨0, by omega, rfl, e, fun _ _ => Nat.zero_le _⟩
  · rw [if_neg e]
    by_cases q : R a c = true
    · rw [if_pos q]
      refine Or.inr ⟨1, by omega, rfl, Or.inl ⟨rfl, q⟩, fun d hd => ?_⟩
      rcases Nat.eq_zero_or_pos d with z | z
      · subst z; exact absurd hd e
      · exact z
    · rw [if_neg q]
      refine Or.inl ⟨rfl, fun d hd => ?_⟩
      cases d with
      | zero => exact e hd
      | succ d =>
        rcases hd with ⟨-, h⟩ | ⟨v, hv, -⟩
        · exact q h
        · exact absurd hv (Nat.not_lt_zero _)
theorem En.rowb {R : Nat → Nat → Bool} {b c : Nat} {x : Int32} : En R b b c x ↔ En R (b + 1) b c x := by
  have k : ∀ d, Wb R (b + 1) d b c → ∃ e, e ≤ d ∧ Wb R b e b c := fun d h => by
    rcases h.split with z | ⟨d1, d2, z1, -, z3⟩
    · exact ⟨d, Nat.le_refl _, z⟩
    · exact ⟨d2, by omega, z3⟩
  constructor
  · rintro (⟨h1, h2⟩ | ⟨d, h1, h2, h3, h4⟩)
    · exact Or.inl ⟨h1, fun d h => by obtain ⟨e, -, z⟩ := k d h; exact h2 e z⟩
    · exact Or.inr ⟨d, by omega, h2, h3.mono, fun e he => by obtain ⟨e2, z1, z2⟩ := k e he; exact Nat.le_trans (h4 e2 z2) z1⟩
  · rintro (⟨h1, h2⟩ | ⟨d, h1, h2, h3, h4⟩)
    · exact Or.inl ⟨h1, fun d h => h2 d h.mono⟩
    · obtain ⟨e, z1, z2⟩ := k d h3
      have : d = e := by have := h4 e z2.mono; omega
      subst this
      obtain ⟨e2, y1, y2, y3⟩ := Wb.short d (Nat.le_refl _) z2
      have := h4 e2 y3.mono
      exact Or.inr ⟨d, by omega, h2, z2, fun e he => h4 e he.mono⟩
/-- no way to b: nothing comes of it -/
theorem En.none {R : Nat → Nat → Bool} {b a c : Nat} {f x : Int32} (hb : b < 900) (hf : En R b a b f) (h1 : f = -1) (hx : En R b a c x) : En R (b + 1) a c x := by
  have hno : ∀ d, ¬ Wb R b d a b := by
    rcases hf with ⟨-, h⟩ | ⟨d, h2, h3, -, -⟩
    · exact h
    · exact absurd (h3.symm.trans h1) (nI_ne_m1 (by omega))
  have k : ∀ d, Wb R (b + 1) d a c → Wb R b d a c := fun d h => by
    rcases h.split with z | ⟨d1, d2, z1, z2, z3⟩
    · exact z
    · exact absurd z2 (hno d1)
  rcases hx with ⟨h1, h2⟩ | ⟨d, h1, h2, h3, h4⟩
  · exact Or.inl ⟨h1, fun d h => h2 d (k d h)⟩
  · exact Or.inr ⟨d, by omega, h2, h3.mono, fun e he => h4 e (k e he)⟩
theorem nI_m1 {v : Nat} (h : v < 2 ^ 31) : ¬ nI v = -1 := by
  intro q
  have h1 : (nI v).toInt = (-1 : Int32).toInt := by rw [q]
  rw [nI_toInt h] at h1
  have e : (-1 : Int32).toInt = -1 := by decide
  rw [e] at h1; omega
theorem En.step {R : Nat → Nat → Bool} {b a c : Nat} (hb : b < 1000) {f s x x' : Int32} (hf : En R b a b f) (hs : En R b b c s) (hx : En R b a c x) (hf1 : ¬ f = -1)
    (hx' : (x' = x ∧ (s = -1 ∨ (¬ x = -1 ∧ x ≤ f + s))) ∨ (x' = f + s ∧ ¬ s = -1 ∧ (x = -1 ∨ (¬ x = -1 ∧ ¬ x ≤ f + s)))) : En R (b + 1) a c x' := by
  obtain ⟨df, h1, rfl, h3, h4⟩ : ∃ d, d ≤ b + 1 ∧ f = nI d ∧ Wb R b d a b ∧ ∀ e, Wb R b e a b → d ≤ e := by
    rcases hf with ⟨h, -⟩ | h
    · exact absurd h hf1
    · exact h
  have hadd : ∀ ds, Wb R b ds b c → Wb R (b + 1) (df + ds) a c := fun ds hd => Wb.app h3.mono hd.mono
  have lift : ∀ d, (∀ e, Wb R (b + 1) e a c → d ≤ e) → Wb R (b + 1) d a c → d ≤ b + 2 := fun d hm hw => by
    obtain ⟨e, z1, z2, z3⟩ := Wb.short d (Nat.le_refl _) hw
    have := hm e z3; omega
  rcases hx' with ⟨rfl, h⟩ | ⟨rfl, hs1, h⟩
  · rcases h with h | ⟨hx1, h⟩
    · -- nothing behind b
      have hno : ∀ d, ¬ Wb R b d b c := by
        rcases hs with ⟨-, z⟩ | ⟨d, z1, z2, -, -⟩
        · exact z
        · exact absurd (z2.symm.trans h) (nI_m1 (by omega))
      have k : ∀ d, Wb R (b + 1) d a c → Wb R b d a c := fun d h => by
        rcases h.split with z | ⟨d1, d2, z1, z2, z3⟩
        · exact z
        · exact absurd z3 (hno d2)
      rcases hx with ⟨h1, h2⟩ | ⟨d, h1, h2, h3, h4⟩
      · exact Or.inl ⟨h1, fun d h => h2 d (k d h)⟩
      · exact Or.inr ⟨d, by omega, h2, h3.mono, fun e he => h4 e (k e he)⟩
    · rcases hx with ⟨z, -⟩ | ⟨dx, k1, rfl, k3, k4⟩
      · exact absurd z hx1
      · refine Or.inr ⟨dx, by omega, rfl, k3.mono, fun e he => ?_⟩
        rcases he.split with z | ⟨d1, d2, z1, z2, z3⟩
        · exact k4 e z
        · rcases hs with ⟨-, z⟩ | ⟨ds, y1, rfl, y3, y4⟩
          · exact absurd z3 (z d2)
          · rw [nI_add] at h
            have := (nI_leI (a := dx) (b := df + ds) (by omega) (by omega)).mp h
            have := h4 d1 z2
            have := y4 d2 z3
            omega
  · obtain ⟨ds, y1, rfl, y3, y4⟩ : ∃ d, d ≤ b + 1 ∧ s = nI d ∧ Wb R b d b c ∧ ∀ e, Wb R b e b c → d ≤ e := by
      rcases hs with ⟨h, -⟩ | h
      · exact absurd h hs1
      · exact h
    rw [nI_add] at h ⊢
    have hw := hadd ds y3
    have hm : ∀ e, Wb R (b + 1) e a c → df + ds ≤ e := fun e he => by
      rcases he.split with z | ⟨d1, d2, z1, z2, z3⟩
      · rcases hx with ⟨-, k⟩ | ⟨dx, k1, rfl, k3, k4⟩
        · exact absurd z (k e)
        · rcases h with h | ⟨-, h⟩
          · exact absurd h (nI_m1 (by omega))
          · have := Nat.lt_of_not_le fun q => h ((nI_leI (a := dx) (b := df + ds) (by omega) (by omega)).mpr q)
            have := k4 e z
            omega
      · have := h4 d1 z2
        have := y4 d2 z3
        omega
    exact Or.inr ⟨df + ds, lift _ hm hw, rfl, hw, hm⟩
theorem En.done {R : Nat → Nat → Bool} {n a c : Nat} {x : Int32} (hn : n ≤ 100) (ha : a < n) (h : En R n a c x) : IsD R n a c x := by
  rcases h with ⟨h1, h2⟩ | ⟨d, h1, h2, h3, h4⟩
  · exact Or.inr ⟨h1, fun e he => h2 e ((Wb.Pa ha).mpr he)⟩
  · exact Or.inl ⟨d, by omega, h2, (Wb.Pa ha).mp h3, fun e he hp => by have := h4 e ((Wb.Pa ha).mpr hp); omega⟩
theorem tab_ne {T : Nat → Int32} {a c a' c' : Nat} {v : Int32} (hc : c < 100) (hc' : c' < 100) (h : ¬ (a' = a ∧ c' = c)) : upd T (100 * a + c) v (100 * a' + c') = T (100 * a' + c') := pk_un (by omega)
theorem Wb.congr {R : Nat → Nat → Bool} {b b' a c : Nat} {x : Int32} (e : b = b') (h : En R b a c x) : En R b' a c x := e ▸ h
