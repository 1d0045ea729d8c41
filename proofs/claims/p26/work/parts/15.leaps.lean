/-! where flights end; which leaps there are; the least run-ups -/
theorem f_of_not {b : Bool} (h : (!b) = true) : b = false := by cases b <;> simp at h ⊢
def OutB (B : Int32 → Int32 → Bool) : Prop := ∀ x y, B x y = false → ∃ c r : Nat, c < 20 ∧ r < 10 ∧ x = nI c ∧ y = nI r
theorem nI_inj {a b : Nat} (ha : a < 2 ^ 31) (hb : b < 2 ^ 31) (h : nI a = nI b) : a = b := (nI_eq ha hb).mp h
theorem row_down {B : Int32 → Int32 → Bool} (hB : OutB B) {c : Int32} {j : Nat} (hj : j < 10) (h : B c (nI j - 1) = false) : 1 ≤ j ∧ nI j - 1 = nI (j - 1) := by
  obtain ⟨x, r, -, hr, -, e⟩ := hB _ _ h
  have e2 : nI j = nI (r + 1) := by rw [nI_succ, ← e]; simp
  have := nI_inj (by omega) (by omega) e2
  exact ⟨by omega, by rw [e, this]; rfl⟩
theorem row_up {B : Int32 → Int32 → Bool} (hB : OutB B) {c : Int32} {j : Nat} (hj : j < 10) (h : B c (nI j + 1) = false) : j + 1 < 10 ∧ nI j + 1 = nI (j + 1) := by
  obtain ⟨x, r, -, hr, -, e⟩ := hB _ _ h
  rw [nI_1] at e
  have := nI_inj (by omega) (by omega) e
  exact ⟨by omega, nI_1 j⟩
theorem sideF_free {B : Int32 → Int32 → Bool} {d r : Int32} : ∀ (n : Nat) (c : Int32), B c r = false → B (sideF B d r n c).1 r = false := by
  intro n
  induction n with
  | zero => intro c h; exact h
  | succ n ih =>
    intro c h
    rw [sideF]
    split
    · exact h
    · rename_i q; exact ih _ (not_t q)
theorem upF_spec {B : Int32 → Int32 → Bool} (hB : OutB B) {c : Int32} : ∀ (n j : Nat), j < 10 → B c (nI j) = false → ∃ j', (upF B c n (nI j)).1 = nI j' ∧ j ≤ j' ∧ j' < 10 ∧ B c (nI j') = false := by
  intro n
  induction n with
  | zero => intro j hj h; exact ⟨j, rfl, Nat.le_refl _, hj, h⟩
  | succ n ih =>
    intro j hj h
    rw [upF]
    split
    · exact ⟨j, rfl, Nat.le_refl _, hj, h⟩
    · rename_i q
      obtain ⟨h1, h2⟩ := row_up hB hj (not_t q)
      rw [h2]
      obtain ⟨j', a, b, c1, d1⟩ := ih (j + 1) h1 (by rw [← h2]; exact not_t q)
      exact ⟨j', a, by omega, c1, d1⟩
theorem downF_spec {B : Int32 → Int32 → Bool} (hB : OutB B) {c : Int32} : ∀ (n j : Nat), j < 10 → B c (nI j) = false → ∃ j', (downF B c n (nI j)).1 = nI j' ∧ j' ≤ j ∧ B c (nI j') = false ∧ ((downF B c n (nI j)).2 = true → B c (nI j' - 1) = true) ∧ ((downF B c n (nI j)).2 = false → j' + n = j) := by
  intro n
  induction n with
  | zero => intro j hj h; exact ⟨j, rfl, Nat.le_refl _, h, (fun q => by cases q), (fun _ => rfl)⟩
  | succ n ih =>
    intro j hj h
    rw [downF]
    split
    · rename_i q; exact ⟨j, rfl, Nat.le_refl _, h, fun _ => q, fun q2 => by cases q2⟩
    · rename_i q
      obtain ⟨h1, h2⟩ := row_down hB hj (not_t q)
      rw [h2]
      obtain ⟨j', a, b, c1, d1, e1⟩ := ih (j - 1) (by omega) (by rw [← h2]; exact not_t q)
      exact ⟨j', a, by omega, c1, d1, fun q2 => by have := e1 q2; omega⟩
theorem ri_next : ∀ a, a < 10 → ∀ f, f < 6 → 1 ≤ f → max2 ((nI a - 5) - 1) (-(nI f)) = nI (max (a - 1) (5 - f)) - 5 := by decide +kernel
theorem ri_hit : ∀ f, f < 6 → 1 ≤ f → max2 (0 - 1) (-(nI f)) = nI 4 - 5 := by decide +kernel
theorem ri_pos : ∀ a, a < 10 → (0 < nI a - 5 ↔ 5 < a) := by decide +kernel
theorem st_pos : ∀ a, a < 5 → ∀ f, f < 6 → 1 ≤ f → ∀ me : Bool, 1 ≤ stepsF me (nI a - 5) (nI f) := by decide +kernel
theorem st_zero : ∀ f, f < 6 → ∀ me : Bool, stepsF me (nI 5 - 5) (nI f) = 0 := by decide +kernel
theorem ri_init : ∀ a, a < 5 → nI a = nI (a + 5) - 5 := by decide +kernel
theorem fly_land {B : Int32 → Int32 → Bool} (hB : OutB B) {d : Int32} {f s : Nat} (hf : f < 6 ∧ 1 ≤ f) (hs : s < 6 ∧ 1 ≤ s) : ∀ (n a : Nat) (c : Int32) (j : Nat) (t o : Int32) (me : Bool) (sp : Int32), B c (nI j) = false → j < 10 → a < 10 → (a < 5 → j + 1 ≤ n) → (5 ≤ a → a + 6 ≤ n) →
    stB B (flyF B d (nI f) (nI s) n c (nI j) t o me sp (nI a - 5)).1 (flyF B d (nI f) (nI s) n c (nI j) t o me sp (nI a - 5)).2.1 = true := by
  intro n
  induction n with
  | zero => intro a c j t o me sp _ _ _ h1 h2; omega
  | succ n ih =>
    intro a c j t o me sp h hj ha h1 h2
    rw [flyF]
    have hc1 := sideF_free (d := d) sp.toNatClampNeg c h
    generalize (sideF B d (nI j) sp.toNatClampNeg c) = w at hc1 ⊢
    by_cases hp : 5 < a
    · rw [if_pos ((ri_pos a ha).mpr hp)]
      obtain ⟨j2, e1, e2, e3, e4⟩ := upF_spec hB (nI a - 5).toNatClampNeg j hj hc1
      rw [e1]
      generalize (upF B w.1 (nI a - 5).toNatClampNeg (nI j)).2 = hit
      cases hit
      · rw [if_neg Bool.false_ne_true, ri_next a ha f hf.1 hf.2]
        exact ih _ _ _ _ _ _ _ e4 e3 (by omega) (fun q => by omega) (fun q => by omega)
      · rw [if_pos rfl, ri_hit f hf.1 hf.2]
        exact ih _ _ _ _ _ _ _ e4 e3 (by omega) (fun q => by omega) (fun q => by omega)
    · rw [if_neg (fun q => hp ((ri_pos a ha).mp q)), ri_next a ha f hf.1 hf.2]
      obtain ⟨j2, e1, e2, e3, e4, e5⟩ := downF_spec hB (stepsF (me || w.2) (nI a - 5) (nI s)) j hj hc1
      split
      · rename_i q
        show stB B w.1 (downF B w.1 (stepsF (me || w.2) (nI a - 5) (nI s)) (nI j)).1 = true
        rw [e1]
        unfold stB
        rw [e3, e4 q]; rfl
      · rename_i q
        have q := e5 (not_t q)
        rw [e1]
        rcases Nat.lt_or_ge a 5 with h5 | h5
        · have := st_pos a h5 s hs.1 hs.2 (me || w.2)
          exact ih _ _ _ _ _ _ _ e3 (by omega) (by omega) (fun _ => by have := h1 h5; omega) (fun q => by omega)
        · obtain rfl : a = 5 := by omega
          exact ih _ _ _ _ _ _ _ e3 (by omega) (by omega) (fun _ => by omega) (fun q => by omega)
/-- the settings are in their ranges -/
def SeR (a f s : Int32) : Prop := ∃ na nf ns : Nat, (na < 5 ∧ 1 ≤ na) ∧ (nf < 6 ∧ 1 ≤ nf) ∧ (ns < 6 ∧ 1 ≤ ns) ∧ a = nI na ∧ f = nI nf ∧ s = nI ns
def flyR (B : Int32 → Int32 → Bool) (a f s d : Int32) (c r u : Nat) : FS := flyF B d f s 100 (nI c) (nI r) 0 (nI r) false (nI u + 1) a
theorem st_in {B : Int32 → Int32 → Bool} (hB : OutB B) {x y : Int32} (h : stB B x y = true) : ∃ j, j < 200 ∧ SB B j = true ∧ x = nI (j % 20) ∧ y = nI (j / 20) := by
  have h2 := h
  unfold stB at h2
  rw [Bool.and_eq_true] at h2
  obtain ⟨c, r, hc, hr, rfl, rfl⟩ := hB x y (f_of_not h2.1)
  refine ⟨20 * r + c, by omega, by rw [SB_rc hc]; exact h, by rw [show (20 * r + c) % 20 = c by omega], by rw [show (20 * r + c) / 20 = r by omega]⟩
theorem flyR_land {B : Int32 → Int32 → Bool} (hB : OutB B) {a f s d : Int32} (hse : SeR a f s) {i : Nat} (hi : i < 200) (hS : SB B i = true) (u : Nat) :
    ∃ j, j < 200 ∧ SB B j = true ∧ (flyR B a f s d (i % 20) (i / 20) u).1 = nI (j % 20) ∧ (flyR B a f s d (i % 20) (i / 20) u).2.1 = nI (j / 20) := by
  obtain ⟨na, nf, ns, h1, h2, h3, rfl, rfl, rfl⟩ := hse
  refine st_in hB ?_
  unfold flyR
  rw [ri_init na h1.1]
  refine fly_land hB h2 h3 100 _ _ _ _ _ _ _ ?_ (by omega) (by omega) (fun _ => by omega) (fun _ => by omega)
  unfold SB stB at hS
  rw [Bool.and_eq_true] at hS
  exact f_of_not hS.1
theorem gr_le {B : Int32 → Int32 → Bool} {x y d : Int32} {u : Nat} (hu : u < 2 ^ 31) (h : nI u ≤ grB B x y d) : stB B x y = true ∧ u ≤ 3 := by
  have k : ∀ g : Nat, g < 4 → nI u ≤ nI g → u ≤ 3 := fun g hg h => by have := (nI_leI hu (by omega)).mp h; omega
  unfold grB at h
  by_cases q : stB B x y = false
  · rw [if_pos q] at h
    exact absurd h (by
      rw [Int32.le_iff_toInt_le, nI_toInt hu]
      have e : (-1 : Int32).toInt = -1 := by decide
      rw [e]; omega)
  · rw [if_neg q] at h
    refine ⟨by cases hh : stB B x y with | true => rfl | false => exact absurd hh q, ?_⟩
    repeat' split at h
    · exact k 0 (by omega) h
    · exact k 1 (by omega) h
    · exact k 2 (by omega) h
    · exact k 3 (by omega) h
def lgN (S : Nat → Bool) (i : Nat) : Nat := cnt S (i + 1) - 1
theorem lgN_lt {B : Int32 → Int32 → Bool} {i : Nat} (hi : i < 200) (h : SB B i = true) : lgN (SB B) i < cnt (SB B) 200 ∧ lgN (SB B) i < 100 := by
  have h1 : 1 ≤ cnt (SB B) (i + 1) := by
    by_cases q : stt (SB B) i = true
    · rw [cnt, if_pos q]; omega
    · rw [cnt, if_neg q]; exact (cnt_pos h (not_t q)).1
  have h2 := cnt_mono_le (SB B) (show i + 1 ≤ 200 by omega)
  have h3 := cnt_le (B := B) (i := 200) (Nat.le_refl _)
  unfold lgN
  omega
theorem lgF_S {S : Nat → Bool} {i : Nat} (h : S i = true) : lgF S i = nI (lgN S i) := by unfold lgF lgN; rw [if_pos h]
/-- a leap from the cell i to the side d with run-up u brings from a ledge to another: p tells the two -/
def Ev (B : Int32 → Int32 → Bool) (a f s : Int32) (i : Nat) (d : Int32) (u p : Nat) : Prop := i < 200 ∧ nI u ≤ grB B (nI (i % 20)) (nI (i / 20)) d ∧ u ≤ 3 ∧ ∃ j, j < 200 ∧ SB B j = true ∧ (flyR B a f s d (i % 20) (i / 20) u).1 = nI (j % 20) ∧ (flyR B a f s d (i % 20) (i / 20) u).2.1 = nI (j / 20) ∧ p = 100 * lgN (SB B) i + lgN (SB B) j
def InvN (nv : Int32) (bd : Nat) (g : Nat → Int32) (E : Nat → Nat → Prop) : Prop := ∀ p, p < bd → (g p = nv ∧ ∀ u, ¬ E p u) ∨ ∃ u, u ≤ 3 ∧ E p u ∧ g p = nI u ∧ ∀ v, E p v → u ≤ v
theorem InvN.cong {nv : Int32} {bd : Nat} {g : Nat → Int32} {E E' : Nat → Nat → Prop} (h : InvN nv bd g E) (he : ∀ p u, E' p u ↔ E p u) : InvN nv bd g E' := by
  intro p hp
  rcases h p hp with ⟨h1, h2⟩ | ⟨u, h1, h2, h3, h4⟩
  · exact Or.inl ⟨h1, fun u q => h2 u ((he p u).mp q)⟩
  · exact Or.inr ⟨u, h1, (he p u).mpr h2, h3, fun v q => h4 v ((he p v).mp q)⟩
theorem InvN.add {nv : Int32} {bd : Nat} {g : Nat → Int32} {E : Nat → Nat → Prop} (h : InvN nv bd g E) {p0 u0 : Nat} (hu : u0 ≤ 3) {g' : Nat → Int32} (hne : ∀ p, p ≠ p0 → g' p = g p)
    (heq : p0 < bd → (g p0 = nv → g' p0 = nI u0) ∧ (∀ v, v ≤ 3 → g p0 = nI v → g p0 ≠ nv ∨ True → g' p0 = nI (if u0 < v then u0 else v))) : InvN nv bd g' (fun p u => E p u ∨ (p = p0 ∧ u = u0)) := by
  intro p hp
  by_cases q : p = p0
  · subst q
    rcases h p hp with ⟨h1, h2⟩ | ⟨u, h1, h2, h3, h4⟩
    · refine Or.inr ⟨u0, hu, Or.inr ⟨rfl, rfl⟩, (heq hp).1 h1, fun v q => ?_⟩
      rcases q with q | ⟨-, q⟩
      · exact absurd q (h2 v)
      · omega
    · have hx := (heq hp).2 u h1 h3 (Or.inr trivial)
      by_cases q : u0 < u
      · rw [if_pos q] at hx
        refine Or.inr ⟨u0, hu, Or.inr ⟨rfl, rfl⟩, hx, fun v q2 => ?_⟩
        rcases q2 with q2 | ⟨-, q2⟩
        · have := h4 v q2; omega
        · omega
      · rw [if_neg q] at hx
        refine Or.inr ⟨u, h1, Or.inl h2, hx, fun v q2 => ?_⟩
        rcases q2 with q2 | ⟨-, q2⟩
        · exact h4 v q2
        · omega
  · rcases h p hp with ⟨h1, h2⟩ | ⟨u, h1, h2, h3, h4⟩
    · exact Or.inl ⟨by rw [hne p q]; exact h1, fun u z => by rcases z with z | ⟨z, -⟩; exact h2 u z; exact q z⟩
    · exact Or.inr ⟨u, h1, Or.inl h2, by rw [hne p q]; exact h3, fun v z => by rcases z with z | ⟨z, -⟩; exact h4 v z; exact absurd z q⟩
theorem nI_ne_m1 {v : Nat} (h : v ≤ 1000) : ¬ nI v = -1 := by
  intro q
  have h1 : (nI v).toInt = (-1 : Int32).toInt := by rw [q]
  rw [nI_toInt (by omega)] at h1
  have e : (-1 : Int32).toInt = -1 := by decide
  rw [e] at h1; omega
theorem least_step {g g' : Nat → Int32} {P ku bd : Nat} (hk : ku ≤ 3) (hg : (g' = upd g P (nI ku) ∧ (g P = -1 ∨ (¬ g P = -1 ∧ ¬ g P ≤ nI ku))) ∨ (g' = g ∧ ¬ g P = -1 ∧ g P ≤ nI ku)) {E : Nat → Nat → Prop} (h : InvN (-1) bd g E) : InvN (-1) bd g' (fun p k => E p k ∨ (p = P ∧ k = ku)) := by
  refine h.add hk ?_ ?_
  · intro p hp
    rcases hg with ⟨rfl, -⟩ | ⟨rfl, -⟩
    · exact pk_un hp
    · rfl
  · intro _
    rcases hg with ⟨rfl, h1 | ⟨h1, h2⟩⟩ | ⟨rfl, h1, h2⟩
    · exact ⟨fun _ => pk_us, fun v hv q _ => absurd (q.symm.trans h1) (nI_ne_m1 (by omega))⟩
    · refine ⟨fun q => absurd q h1, fun v hv q _ => ?_⟩
      rw [q] at h2
      rw [pk_us, if_pos (Nat.lt_of_not_le fun z => h2 ((nI_leI (by omega) (by omega)).mpr z))]
    · refine ⟨fun q => absurd q h1, fun v hv q _ => ?_⟩
      rw [q] at h2 ⊢
      rw [if_neg (by have := (nI_leI (a := v) (b := ku) (by omega) (by omega)).mp h2; omega)]
theorem blkX_in {bl : Nat → Int32} {x y : Int32} (h : blkX bl x y = false) : ∃ c r : Nat, c < 20 ∧ r < 10 ∧ x = nI c ∧ y = nI r := by
  unfold blkX at h
  split at h
  · cases h
  · rename_i h1
    split at h
    · cases h
    · rename_i h2
      split at h
      · cases h
      · rename_i h3
        split at h
        · rename_i h4
          obtain ⟨c, hc, rfl⟩ := nI_of h1
          obtain ⟨r, hr, rfl⟩ := nI_of h3
          exact ⟨c, r, Nat.lt_of_not_le fun q => h2 ((nI_leI (a := 20) (by decide) hc).mpr q), (nI_ltI (b := 10) hr (by decide)).mp h4, rfl, rfl⟩
        · cases h
theorem blkX_OutB (bl : Nat → Int32) : OutB (blkX bl) := fun _ _ h => blkX_in h
theorem isCellX_in {c r : Nat} (hc : c < 20) (hr : r < 10) : isCellX (nI c) (nI r) = true := by
  unfold isCellX
  rw [if_neg (nI_pos (by omega)), if_neg (fun q => by have := (nI_leI (a := 20) (b := c) (by decide) (by omega)).mp q; omega), if_neg (nI_pos (by omega)), if_neg (fun q => by have := (nI_leI (a := 10) (b := r) (by decide) (by omega)).mp q; omega)]
theorem laX_c {lo : Nat → Int32} {c r : Nat} (hc : c < 20) (hr : r < 10) : laX lo (nI c) (nI r) = lo (20 * r + c) := by
  unfold laX
  rw [if_pos (isCellX_in hc hr), nI_20, at_nI (by omega) (by decide)]
theorem laX_S {S : Nat → Bool} {lo : Nat → Int32} (hlo : ∀ i, i < 200 → lo i = lgF S i) {c r : Nat} (hc : c < 20) (hr : r < 10) (h : S (20 * r + c) = true) : laX lo (nI c) (nI r) = nI (lgN S (20 * r + c)) := by
  rw [laX_c hc hr, hlo _ (by omega), lgF_S h]
theorem laX_j {S : Nat → Bool} {lo : Nat → Int32} (hlo : ∀ i, i < 200 → lo i = lgF S i) {j : Nat} (hj : j < 200) (h : S j = true) : laX lo (nI (j % 20)) (nI (j / 20)) = nI (lgN S j) := by
  have e : 20 * (j / 20) + j % 20 = j := by omega
  rw [laX_S hlo (by omega) (by omega) (by rw [e]; exact h), e]
theorem nI_100 (a : Nat) : nI a * 100 = nI (100 * a) := by
  rw [show (100 : Int32) = nI 100 from rfl, pk_mul, Nat.mul_comm]
theorem Ev_one {B : Int32 → Int32 → Bool} {a f s d : Int32} {i ku j : Nat} (hi : i < 200) (hg : nI ku ≤ grB B (nI (i % 20)) (nI (i / 20)) d) (hk : ku ≤ 3) (hj : j < 200) (hS : SB B j = true)
    (e1 : (flyR B a f s d (i % 20) (i / 20) ku).1 = nI (j % 20)) (e2 : (flyR B a f s d (i % 20) (i / 20) ku).2.1 = nI (j / 20)) (p : Nat) : Ev B a f s i d ku p ↔ p = 100 * lgN (SB B) i + lgN (SB B) j := by
  constructor
  · rintro ⟨-, -, -, j2, h1, h2, h3, h4, h5⟩
    have q1 := nI_inj (by omega) (by omega) (e1.symm.trans h3)
    have q2 := nI_inj (by omega) (by omega) (e2.symm.trans h4)
    have : j2 = j := by omega
    rw [h5, this]
  · intro h
    exact ⟨hi, hg, hk, j, hj, hS, e1, e2, h⟩
theorem leaps_step {B : Int32 → Int32 → Bool} {a f s d : Int32} {i ku P bd : Nat} {gl g g' : Nat → Int32} (hk : ku ≤ 3) (hP : ∀ p, Ev B a f s i d ku p ↔ p = P)
    (hg : (g' = upd g P (nI ku) ∧ (g P = -1 ∨ (¬ g P = -1 ∧ ¬ g P ≤ nI ku))) ∨ (g' = g ∧ ¬ g P = -1 ∧ g P ≤ nI ku))
    (hI : ∀ E, InvN (-1) bd gl E → InvN (-1) bd g (fun p k => E p k ∨ (k < ku ∧ Ev B a f s i d k p))) : ∀ E, InvN (-1) bd gl E → InvN (-1) bd g' (fun p k => E p k ∨ (k < ku + 1 ∧ Ev B a f s i d k p)) := by
  intro E hE
  refine (least_step hk hg (hI E hE)).cong fun p k => ?_
  constructor
  · rintro (h | ⟨h1, h2⟩)
    · exact Or.inl (Or.inl h)
    · rcases Nat.lt_or_ge k ku with q | q
      · exact Or.inl (Or.inr ⟨q, h2⟩)
      · obtain rfl : k = ku := by omega
        exact Or.inr ⟨(hP p).mp h2, rfl⟩
  · rintro ((h | ⟨h1, h2⟩) | ⟨h1, rfl⟩)
    · exact Or.inl h
    · exact Or.inr ⟨by omega, h2⟩
    · exact Or.inr ⟨by omega, (hP p).mpr h1⟩
theorem leaps_end {B : Int32 → Int32 → Bool} {a f s d : Int32} {c r ku bd : Nat} {gl g : Nat → Int32} (hc : c < 20) (hku : ku ≤ 4) (hx : grB B (nI c) (nI r) d < nI ku)
    (hI : ∀ E, InvN (-1) bd gl E → InvN (-1) bd g (fun p k => E p k ∨ (k < ku ∧ Ev B a f s (20 * r + c) d k p))) : ∀ E, InvN (-1) bd gl E → InvN (-1) bd g (fun p k => E p k ∨ Ev B a f s (20 * r + c) d k p) := by
  intro E hE
  refine (hI E hE).cong fun p k => ?_
  constructor
  · rintro (h | h)
    · exact Or.inl h
    · refine Or.inr ⟨?_, h⟩
      have h1 := h.2.1
      rw [show (20 * r + c) % 20 = c by omega, show (20 * r + c) / 20 = r by omega] at h1
      have h2 := h.2.2.1
      refine Nat.lt_of_not_le fun q => ?_
      have h3 := (nI_leI (a := ku) (b := k) (by omega) (by omega)).mpr q
      rw [Int32.le_iff_toInt_le] at h1 h3
      rw [Int32.lt_iff_toInt_lt] at hx
      omega
  · rintro (h | ⟨-, h⟩)
    · exact Or.inl h
    · exact Or.inr h
/-- every leap, from every cell before i -/
def EvA (B : Int32 → Int32 → Bool) (a f s : Int32) (n p k : Nat) : Prop := ∃ (i : Nat) (d : Int32), i < n ∧ (d = 1 ∨ d = -1) ∧ Ev B a f s i d k p
theorem find_step {B : Int32 → Int32 → Bool} {a f s : Int32} {n bd : Nat} {g g1 g2 : Nat → Int32} (h0 : InvN (-1) bd g (EvA B a f s n)) (h1 : ∀ E, InvN (-1) bd g E → InvN (-1) bd g1 (fun p k => E p k ∨ Ev B a f s n 1 k p))
    (h2 : ∀ E, InvN (-1) bd g1 E → InvN (-1) bd g2 (fun p k => E p k ∨ Ev B a f s n (-1) k p)) : InvN (-1) bd g2 (EvA B a f s (n + 1)) := by
  refine (h2 _ (h1 _ h0)).cong fun p k => ?_
  constructor
  · rintro ⟨i, d, hi, hd, h⟩
    rcases Nat.lt_or_ge i n with q | q
    · exact Or.inl (Or.inl ⟨i, d, q, hd, h⟩)
    · obtain rfl : i = n := by omega
      rcases hd with rfl | rfl
      · exact Or.inl (Or.inr h)
      · exact Or.inr h
  · rintro ((⟨i, d, hi, hd, h⟩ | h) | h)
    · exact ⟨i, d, by omega, hd, h⟩
    · exact ⟨n, 1, by omega, Or.inl rfl, h⟩
    · exact ⟨n, -1, by omega, Or.inr rfl, h⟩
theorem find_init {B : Int32 → Int32 → Bool} {a f s : Int32} {bd : Nat} (g : Nat → Int32) : InvN (-1) bd (fillX (-1) g bd) (EvA B a f s 0) := fun p hp => Or.inl ⟨by unfold fillX; rw [if_pos hp], fun u h => by obtain ⟨i, d, hi, -⟩ := h; omega⟩
def comeF (g : Nat → Int32) (a b : Nat) (k : Int32) : Bool := if g (100 * a + b) = -1 then false else if k < g (100 * a + b) then false else true
def cntB (p : Nat → Bool) : Nat → Nat
  | 0 => 0
  | n + 1 => if p n = true then cntB p n + 1 else cntB p n
theorem cntB_t {p : Nat → Bool} {n : Nat} (h : p n = true) : cntB p (n + 1) = cntB p n + 1 := by rw [cntB, if_pos h]
theorem cntB_f {p : Nat → Bool} {n : Nat} (h : p n = false) : cntB p (n + 1) = cntB p n := by rw [cntB, if_neg (by rw [h]; decide)]
theorem cntB_le (p : Nat → Bool) : ∀ n, cntB p n ≤ n := by
  intro n
  induction n with
  | zero => exact Nat.le_refl _
  | succ n ih => rw [cntB]; split <;> omega
