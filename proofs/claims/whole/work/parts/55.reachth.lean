/-! what the reference finds of reaches -/
def dkI (k : Nat) : Int32 := if k % 2 = 0 then -1 else 1
theorem dk_eq (k : Nat) : 2 * nI (k % 2) - 1 = dkI k := by
  unfold dkI
  rcases (show k % 2 = 0 ∨ k % 2 = 1 by omega) with h | h
  · rw [h, if_pos rfl]; decide
  · rw [h, if_neg (by decide)]; decide
theorem least9 {bd P ku : Nat} {g : Nat → Int32} {E : Nat → Nat → Prop} {v : Int32} (h : InvN 9 bd g E) (hk : ku ≤ 3) (hv : (nI ku < g P ∧ v = nI ku) ∨ (¬ nI ku < g P ∧ v = g P)) (hP : P < bd) : InvN 9 bd (upd g P v) (fun p u => E p u ∨ (p = P ∧ u = ku)) := by
  refine h.add hk (fun p hp => pk_un hp) (fun _ => ⟨fun q => ?_, fun w hw q _ => ?_⟩)
  · rw [pk_us]
    rcases hv with ⟨-, e⟩ | ⟨e, -⟩
    · exact e
    · rw [q] at e
      exact absurd ((nI_ltI (b := 9) (by omega) (by decide)).mpr (by omega)) e
  · rw [pk_us]
    rcases hv with ⟨e, e2⟩ | ⟨e, e2⟩
    · rw [q] at e
      rw [e2, if_pos ((nI_ltI (by omega) (by omega)).mp e)]
    · rw [q] at e
      rw [e2, q, if_neg (fun z => e ((nI_ltI (by omega) (by omega)).mpr z))]
/-- the leaps of a cell that are tried before k -/
def EvK (B : Int32 → Int32 → Bool) (a f s : Int32) (i k p u : Nat) : Prop := ∃ q, q < k ∧ u = q / 2 ∧ Ev B a f s i (dkI q) u p
theorem EvK_add {B : Int32 → Int32 → Bool} {a f s : Int32} {i k P bd : Nat} {g : Nat → Int32} {v : Int32} (h : InvN 9 bd g (fun p u => EvA B a f s i p u ∨ EvK B a f s i k p u)) (hk : k / 2 ≤ 3) (hE : ∀ p, Ev B a f s i (dkI k) (k / 2) p ↔ p = P) (hP : P < bd)
    (hv : (nI (k / 2) < g P ∧ v = nI (k / 2)) ∨ (¬ nI (k / 2) < g P ∧ v = g P)) : InvN 9 bd (upd g P v) (fun p u => EvA B a f s i p u ∨ EvK B a f s i (k + 1) p u) := by
  refine (least9 h hk hv hP).cong fun p u => ?_
  constructor
  · rintro (h | ⟨q, h1, h2, h3⟩)
    · exact Or.inl (Or.inl h)
    · rcases Nat.lt_or_ge q k with z | z
      · exact Or.inl (Or.inr ⟨q, z, h2, h3⟩)
      · obtain rfl : q = k := by omega
        subst h2
        exact Or.inr ⟨(hE p).mp h3, rfl⟩
  · rintro ((h | ⟨q, h1, h2⟩) | ⟨h1, h2⟩)
    · exact Or.inl h
    · exact Or.inr ⟨q, by omega, h2⟩
    · exact Or.inr ⟨k, Nat.lt_succ_self k, h2, by rw [h2]; exact (hE p).mpr h1⟩
theorem EvK_skip {B : Int32 → Int32 → Bool} {a f s : Int32} {i k bd : Nat} {g : Nat → Int32} (h : InvN 9 bd g (fun p u => EvA B a f s i p u ∨ EvK B a f s i k p u)) (hE : ∀ p, ¬ Ev B a f s i (dkI k) (k / 2) p) : InvN 9 bd g (fun p u => EvA B a f s i p u ∨ EvK B a f s i (k + 1) p u) := by
  refine h.cong fun p u => ?_
  constructor
  · rintro (h | ⟨q, h1, h2, h3⟩)
    · exact Or.inl h
    · rcases Nat.lt_or_ge q k with z | z
      · exact Or.inr ⟨q, z, h2, h3⟩
      · obtain rfl : q = k := by omega
        subst h2
        exact absurd h3 (hE p)
  · rintro (h | ⟨q, h1, h2⟩)
    · exact Or.inl h
    · exact Or.inr ⟨q, by omega, h2⟩
theorem EvK_end {B : Int32 → Int32 → Bool} {a f s : Int32} {i k bd : Nat} {g : Nat → Int32} (h : InvN 9 bd g (fun p u => EvA B a f s i p u ∨ EvK B a f s i k p u)) (hk : 8 ≤ k ∨ SB B i = false) : InvN 9 bd g (EvA B a f s (i + 1)) := by
  refine h.cong fun p u => ?_
  constructor
  · rintro ⟨j, d, hj, hd, hE⟩
    rcases Nat.lt_or_ge j i with z | z
    · exact Or.inl ⟨j, d, z, hd, hE⟩
    · obtain rfl : j = i := by omega
      rcases hk with hk | hk
      · rcases hd with rfl | rfl
        · exact Or.inr ⟨2 * u + 1, by have := hE.2.2.1; omega, by omega, by rw [show dkI (2 * u + 1) = 1 by unfold dkI; rw [if_neg (by omega)]]; exact hE⟩
        · exact Or.inr ⟨2 * u, by have := hE.2.2.1; omega, by omega, by rw [show dkI (2 * u) = -1 by unfold dkI; rw [if_pos (by omega)]]; exact hE⟩
      · exfalso
        have h1 := (gr_le (by have := hE.2.2.1; omega) hE.2.1).1
        have h1 : SB B j = true := h1
        rw [hk] at h1
        cases h1
  · rintro (⟨j, d, hj, r⟩ | ⟨q, h1, h2, h3⟩)
    · exact ⟨j, d, by omega, r⟩
    · refine ⟨i, dkI q, Nat.lt_succ_self i, ?_, h3⟩
      unfold dkI
      split
      · exact Or.inr rfl
      · exact Or.inl rfl
theorem EvK_nil {B : Int32 → Int32 → Bool} {a f s : Int32} {i bd : Nat} {g : Nat → Int32} (h : InvN 9 bd g (EvA B a f s i)) : InvN 9 bd g (fun p u => EvA B a f s i p u ∨ EvK B a f s i 0 p u) :=
  h.cong fun p u => ⟨fun q => q.elim id (fun ⟨z, hz, _⟩ => absurd hz (Nat.not_lt_zero _)), Or.inl⟩
theorem find9 {B : Int32 → Int32 → Bool} {a f s : Int32} {bd : Nat} (g : Nat → Int32) : InvN 9 bd (fillX 9 g bd) (EvA B a f s 0) := fun p hp => Or.inl ⟨by unfold fillX; rw [if_pos hp], fun u h => by obtain ⟨i, d, hi, -⟩ := h; omega⟩
theorem Ev_gr {B : Int32 → Int32 → Bool} {a f s d : Int32} {i u : Nat} (hg : grB B (nI (i % 20)) (nI (i / 20)) d < nI u) (p : Nat) : ¬ Ev B a f s i d u p := fun h => Int32.not_le.mpr hg h.2.1
def RchM (S : KS) (go : Nat → Int32) : Prop := InvN 9 (100 * nS S) go (EvA (Bk S.1) S.2.1.1 S.2.1.2.1 S.2.1.2.2 200)
theorem RchM.R {S : KS} {go : Nat → Int32} (h : RchM S go) {a b k : Nat} (ha : a < nS S) (hb : b < nS S) (hk : k ≤ 3) : decide (go (100 * a + b) ≤ nI k) = RS S k a b := by
  have hn : nS S ≤ 100 := nL_le _
  unfold RS RC
  rcases h (100 * a + b) (by omega) with ⟨h1, h2⟩ | ⟨u, h1, h2, h3, h4⟩
  · rw [h1, dec_f (by rintro ⟨u, -, hu⟩; exact h2 u hu)]
    exact decide_eq_false (fun q => by have := (nI_leI (a := 9) (by decide) (by omega)).mp q; omega)
  · rw [h3]
    by_cases q : u ≤ k
    · rw [decide_eq_true ((nI_leI (by omega) (by omega)).mpr q), dec_t ⟨u, q, h2⟩]
    · rw [decide_eq_false (fun z => q ((nI_leI (by omega) (by omega)).mp z)), dec_f (by rintro ⟨v, hv, hE⟩; have := h4 v hE; omega)]
theorem RchM.slow {S : KS} {go : Nat → Int32} (h : RchM S go) {a b : Nat} (ha : a < nS S) (hb : b < nS S) : (if go (100 * a + b) = 9 then -1 else go (100 * a + b)) = slowS S a b := by
  have hn : nS S ≤ 100 := nL_le _
  refine IsL.toV ?_
  rcases h (100 * a + b) (by omega) with ⟨h1, h2⟩ | ⟨u, h1, h2, h3, h4⟩
  · rw [if_pos h1]; exact Or.inl ⟨rfl, h2⟩
  · rw [if_neg (by rw [h3]; exact fun q => by have := nI_inj (a := u) (b := 9) (by omega) (by decide) q; omega)]
    exact Or.inr ⟨u, h1, h2, h3, h4⟩
/-! spreading, a number of leaps at a time -/
def LV (R : Nat → Nat → Bool) (N o n : Nat) (f : Nat → Int32) : Prop := ∀ b, b < N → (∃ d, d ≤ n ∧ f b = nI d ∧ Pa R N d o b ∧ ∀ e, e < d → ¬ Pa R N e o b) ∨ (f b = -1 ∧ ∀ e, e ≤ n → ¬ Pa R N e o b)
def neg1 (f : Nat → Int32) (b : Nat) : Bool := decide (f b = -1)
/-- in a round: the ledges before k are looked from, from k on to x -/
def LVk (R : Nat → Nat → Bool) (N o n k x : Nat) (f0 f : Nat → Int32) (mo : Bool) : Prop :=
  (∀ b, b < N → f b = f0 b ∨ (f0 b = -1 ∧ f b = nI (n + 1) ∧ Pa R N (n + 1) o b)) ∧
  (∀ v b, v < N → b < N → (v < k ∨ (v = k ∧ b < x)) → f0 v = nI n → R v b = true → ¬ f b = -1) ∧
  (mo = false → ∀ b, b < N → f b = f0 b) ∧ (mo = true → ∃ b, b < N ∧ f0 b = -1 ∧ ¬ f b = -1)
theorem LVk.init (R : Nat → Nat → Bool) (N o n : Nat) (f0 : Nat → Int32) : LVk R N o n 0 0 f0 f0 false :=
  ⟨fun b _ => Or.inl rfl, fun v b _ _ h => by omega, fun _ b _ => rfl, fun h => by cases h⟩
theorem LVk.next {R : Nat → Nat → Bool} {N o n k x : Nat} {f0 f : Nat → Int32} {mo : Bool} (h : LVk R N o n k x f0 f mo) (hx : N ≤ x ∨ ¬ f0 k = nI n) : LVk R N o n (k + 1) 0 f0 f mo := by
  refine ⟨h.1, fun v b hv hb hvb h0 hR => ?_, h.2.2⟩
  rcases Nat.lt_or_ge v k with z | z
  · exact h.2.1 v b hv hb (Or.inl z) h0 hR
  · obtain rfl : v = k := by omega
    rcases hx with hx | hx
    · exact h.2.1 v b hv hb (Or.inr ⟨rfl, by omega⟩) h0 hR
    · exact absurd h0 hx
theorem LVk.skip {R : Nat → Nat → Bool} {N o n k x : Nat} {f0 f : Nat → Int32} {mo : Bool} (h : LVk R N o n k x f0 f mo) (hx : ¬ f x = -1 ∨ R k x = false) : LVk R N o n k (x + 1) f0 f mo := by
  refine ⟨h.1, fun v b hv hb hvb h0 hR => ?_, h.2.2⟩
  by_cases z : v = k ∧ b = x
  · obtain ⟨rfl, rfl⟩ := z
    rcases hx with hx | hx
    · exact hx
    · rw [hx] at hR; cases hR
  · exact h.2.1 v b hv hb (by omega) h0 hR
theorem LVk.set {R : Nat → Nat → Bool} {N o n k x : Nat} {f0 f : Nat → Int32} {mo : Bool} (h : LVk R N o n k x f0 f mo) (hn : n < 900) (hk : k < N) (hx : x < N) (h0 : f0 k = nI n) (hP : Pa R N n o k) (hfx : f x = -1) (hR : R k x = true) : LVk R N o n k (x + 1) f0 (upd f x (nI (n + 1))) true := by
  have h0x : f0 x = -1 := by
    rcases h.1 x hx with z | ⟨z, -⟩
    · rw [← z]; exact hfx
    · exact z
  refine ⟨fun b hb => ?_, fun v b hv hb hvb h0 hR => ?_, fun q => (by cases q), fun _ => ⟨x, hx, h0x, by rw [pk_us]; exact nI_ne_m1 (by omega)⟩⟩
  · by_cases z : b = x
    · subst z
      rw [pk_us]
      exact Or.inr ⟨h0x, rfl, k, hk, hP, hR⟩
    · rw [pk_un z]; exact h.1 b hb
  · by_cases z : b = x
    · subst z; rw [pk_us]; exact nI_ne_m1 (by omega)
    · rw [pk_un z]; exact h.2.1 v b hv hb (by omega) h0 hR
/-- whether the cell is told to be n leaps away -/
theorem LVk.eq {R : Nat → Nat → Bool} {N o n k x : Nat} {f0 f : Nat → Int32} {mo : Bool} (h : LVk R N o n k x f0 f mo) (hn : n < 900) {v : Nat} (hv : v < N) : f v = nI n ↔ f0 v = nI n := by
  rcases h.1 v hv with z | ⟨z1, z2, -⟩
  · rw [z]
  · rw [z1, z2]
    constructor
    · intro q; have := nI_inj (by omega) (by omega) q; omega
    · intro q; exact absurd q.symm (nI_ne_m1 (by omega))
theorem LV.at {R : Nat → Nat → Bool} {N o n : Nat} {f : Nat → Int32} (h : LV R N o n f) (hn : n < 900) {v : Nat} (hv : v < N) (e : f v = nI n) : Pa R N n o v := by
  rcases h v hv with ⟨d, h1, h2, h3, -⟩ | ⟨h1, -⟩
  · rw [h2] at e
    have := nI_inj (by omega) (by omega) e
    subst this
    exact h3
  · rw [h1] at e
    exact absurd e.symm (nI_ne_m1 (by omega))
theorem LV.step {R : Nat → Nat → Bool} {N o n : Nat} {f0 f : Nat → Int32} {mo : Bool} (h0 : LV R N o n f0) (hn : n < 900) (h : LVk R N o n N 0 f0 f mo) : LV R N o (n + 1) f := by
  intro b hb
  rcases h0 b hb with ⟨d, h1, h2, h3⟩ | ⟨h1, h2⟩
  · rcases h.1 b hb with z | ⟨z, -⟩
    · exact Or.inl ⟨d, by omega, by rw [z]; exact h2, h3⟩
    · rw [z] at h2; exact absurd h2.symm (nI_ne_m1 (by omega))
  · rcases h.1 b hb with z | ⟨-, z1, z2⟩
    · refine Or.inr ⟨by rw [z]; exact h1, fun e he hp => ?_⟩
      rcases Nat.lt_or_ge e (n + 1) with q | q
      · exact h2 e (by omega) hp
      · obtain rfl : e = n + 1 := by omega
        obtain ⟨v, hv, hp1, hR⟩ := hp
        have hfv : f0 v = nI n := by
          rcases h0 v hv with ⟨d, a1, a2, a3, a4⟩ | ⟨-, a2⟩
          · rcases Nat.lt_or_ge d n with w | w
            · exfalso
              exact h2 (d + 1) (by omega) ⟨v, hv, a3, hR⟩
            · rw [a2, show d = n by omega]
          · exact absurd hp1 (a2 n (Nat.le_refl _))
        exact h.2.1 v b hv hb (Or.inl hv) hfv hR (by rw [z]; exact h1)
    · refine Or.inl ⟨n + 1, Nat.le_refl _, z1, z2, fun e he => h2 e (by omega)⟩
theorem LV.done {R : Nat → Nat → Bool} {N o n : Nat} {f : Nat → Int32} (h : LV R N o n f) (hn : n ≤ 101) (ho : o < N) (hno : ∀ v, v < N → ¬ f v = nI n) {b : Nat} (hb : b < N) : IsD R N o b (f b) := by
  have key : ∀ e c, c < N → Pa R N e o c → ¬ f c = -1 := by
    intro e
    induction e with
    | zero =>
      intro c hc hp q
      rcases h c hc with ⟨d, h1, h2, -⟩ | ⟨-, h2⟩
      · rw [h2] at q; exact nI_ne_m1 (by omega) q
      · exact h2 0 (Nat.zero_le _) hp
    | succ e ih =>
      rintro c hc ⟨v, hv, hp, hR⟩ q
      rcases h v hv with ⟨d, h1, h2, h3, -⟩ | ⟨h1, -⟩
      · rcases Nat.lt_or_ge d n with w | w
        · rcases h c hc with ⟨d2, a1, a2, -⟩ | ⟨-, a2⟩
          · rw [a2] at q; exact nI_ne_m1 (by omega) q
          · exact a2 (d + 1) (by omega) ⟨v, hv, h3, hR⟩
        · exact hno v hv (by rw [h2, show d = n by omega])
      · exact ih v hv hp h1
  rcases h b hb with ⟨d, h1, h2, h3, h4⟩ | ⟨h1, -⟩
  · exact Or.inl ⟨d, by omega, h2, h3, h4⟩
  · exact Or.inr ⟨h1, fun e hp => key e b hb hp h1⟩
theorem cntB_lt {p q : Nat → Bool} : ∀ {n : Nat}, (∀ i, i < n → p i = true → q i = true) → (∃ i, i < n ∧ p i = false ∧ q i = true) → cntB p n < cntB q n := by
  intro n
  induction n with
  | zero => rintro - ⟨i, hi, -⟩; exact absurd hi (Nat.not_lt_zero _)
  | succ n ih =>
    rintro h ⟨i, hi, h1, h2⟩
    rw [cntB, cntB]
    have hle : ∀ m, m ≤ n → cntB p m ≤ cntB q m := by
      intro m
      induction m with
      | zero => intro _; exact Nat.le_refl _
      | succ m ihm =>
        intro hm
        rw [cntB, cntB]
        have := ihm (by omega)
        by_cases z : p m = true
        · rw [if_pos z, if_pos (h m (by omega) z)]; omega
        · rw [if_neg z]; split <;> omega
    rcases Nat.lt_or_ge i n with z | z
    · have := ih (fun j hj => h j (by omega)) ⟨i, z, h1, h2⟩
      by_cases y : p n = true
      · rw [if_pos y, if_pos (h n (Nat.lt_succ_self n) y)]; omega
      · rw [if_neg y]; split <;> omega
    · obtain rfl : i = n := by omega
      rw [if_neg (by rw [h1]; decide), if_pos h2]
      have := hle i (Nat.le_refl _)
      omega
theorem LVk.less {R : Nat → Nat → Bool} {N o n k x : Nat} {f0 f : Nat → Int32} (h : LVk R N o n k x f0 f true) (hn : n < 900) : cntB (neg1 f) N < cntB (neg1 f0) N := by
  obtain ⟨b, hb, h1, h2⟩ := h.2.2.2 rfl
  refine cntB_lt (fun i hi q => ?_) ⟨b, hb, decide_eq_false h2, decide_eq_true h1⟩
  have q := of_decide_eq_true q
  rcases h.1 i hi with z | ⟨z, z2, -⟩
  · exact decide_eq_true (by rw [← z]; exact q)
  · exact decide_eq_true z
theorem LVk.none {R : Nat → Nat → Bool} {N o n k x : Nat} {f0 f : Nat → Int32} (h : LVk R N o n k x f0 f false) (h0 : LV R N o n f0) (hn : n < 900) : ∀ v, v < N → ¬ f v = nI (n + 1) := by
  intro v hv q
  rw [h.2.2.1 rfl v hv] at q
  rcases h0 v hv with ⟨d, h1, h2, -⟩ | ⟨h1, -⟩
  · rw [h2] at q; have := nI_inj (by omega) (by omega) q; omega
  · rw [h1] at q; exact nI_ne_m1 (by omega) q.symm
def spI (o : Nat) (f : Nat → Int32) (i : Nat) : Nat → Int32 := fun b => if b < i then (if b = o then 0 else -1) else f b
theorem spI_0 (o : Nat) (f : Nat → Int32) : spI o f 0 = f := by funext b; unfold spI; rw [if_neg (Nat.not_lt_zero _)]
theorem spI_s (o : Nat) (f : Nat → Int32) (i : Nat) {v : Int32} (hv : v = if i = o then 0 else -1) : upd (spI o f i) i v = spI o f (i + 1) := by
  funext b
  unfold spI upd
  by_cases h : b = i
  · subst h; rw [if_pos rfl, if_pos (Nat.lt_succ_self _), hv]
  · rw [if_neg h]
    show (if b < i then _ else _) = _
    by_cases q : b < i
    · rw [if_pos q, if_pos (show b < i + 1 by omega)]
    · rw [if_neg q, if_neg (show ¬ b < i + 1 by omega)]
theorem LV_init {R : Nat → Nat → Bool} {N o : Nat} (f : Nat → Int32) : LV R N o 0 (spI o f N) := by
  intro b hb
  unfold spI
  rw [if_pos hb]
  by_cases h : b = o
  · subst h
    rw [if_pos rfl]
    exact Or.inl ⟨0, Nat.le_refl _, rfl, rfl, fun e he => absurd he (Nat.not_lt_zero _)⟩
  · rw [if_neg h]
    exact Or.inr ⟨rfl, fun e he hp => by obtain rfl : e = 0 := by omega
                                         exact h (show o = b from hp).symm⟩
theorem neg_init {o N : Nat} (f : Nat → Int32) (ho : o < N) : cntB (neg1 (spI o f N)) N + 1 ≤ N := by
  have h : cntB (neg1 (spI o f N)) N < cntB (fun _ => true) N := cntB_lt (fun _ _ _ => rfl) ⟨o, ho, by unfold neg1 spI; rw [if_pos ho, if_pos rfl]; decide, rfl⟩
  have := cntB_le (fun _ => true) N
  omega
