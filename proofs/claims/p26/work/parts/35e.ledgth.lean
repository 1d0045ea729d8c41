/-! the ledges, one by one: where each begins, how long it is -/
theorem lg_run (S : Nat → Bool) (v w f g h : Nat → Int32) : ∀ m a, a < cnt S m → ∃ i0 len : Nat, i0 + len ≤ m ∧ 1 ≤ len ∧ stt S i0 = true ∧ cnt S i0 = a ∧ scA S v f m a = v i0 ∧ scA S w g m a = w i0 ∧ leA S h m a = nI len ∧ i0 % 20 + len ≤ 20 ∧
    (∀ x, x < len → S (i0 + x) = true ∧ cnt S (i0 + x + 1) = a + 1) ∧ (∀ i, i < m → S i = true → cnt S (i + 1) = a + 1 → i0 ≤ i ∧ i < i0 + len) := by
  intro m
  induction m with
  | zero => intro a ha; exact absurd ha (Nat.not_lt_zero _)
  | succ m ih =>
    intro a ha
    by_cases q : stt S m = true
    · rw [cnt, if_pos q] at ha
      rw [scA, scA, leA, if_pos q, if_pos q, if_pos q]
      by_cases z : a = cnt S m
      · subst z
        refine ⟨m, 1, Nat.le_refl _, Nat.le_refl _, q, rfl, pk_us, pk_us, pk_us, by omega, fun x hx => ?_, fun i hi h1 h2 => ?_⟩
        · obtain rfl : x = 0 := by omega
          refine ⟨stt_S q, ?_⟩
          show cnt S (m + 1) = _
          rw [cnt, if_pos q]
        · have := cnt_mono_le S (show i + 1 ≤ m + 1 by omega)
          rcases Nat.lt_or_ge i m with y | y
          · have := cnt_mono_le S (show i + 1 ≤ m by omega)
            omega
          · omega
      · obtain ⟨i0, len, h1, h2, h3, h4, h5, h6, h7, h8, h9, h10⟩ := ih a (by omega)
        refine ⟨i0, len, by omega, h2, h3, h4, (pk_un z).trans h5, (pk_un z).trans h6, (pk_un z).trans h7, h8, h9, fun i hi g1 g2 => ?_⟩
        rcases Nat.lt_or_ge i m with y | y
        · exact h10 i y g1 g2
        · obtain rfl : i = m := by omega
          rw [cnt, if_pos q] at g2
          omega
    · have ec : cnt S (m + 1) = cnt S m := by rw [cnt, if_neg q]
      rw [ec] at ha
      rw [scA, scA, leA, if_neg q, if_neg q, if_neg q]
      obtain ⟨i0, len, h1, h2, h3, h4, h5, h6, h7, h8, h9, h10⟩ := ih a ha
      by_cases z : S m = true
      · rw [if_pos z]
        obtain ⟨c1, c2, c3⟩ := cnt_pos z (not_t q)
        have hm0 : 1 ≤ m := by
          rcases Nat.eq_zero_or_pos m with y | y
          · rw [y] at c2; exact absurd rfl c2
          · exact y
        by_cases y : a = cnt S m - 1
        · subst y
          have h11 := h10 (m - 1) (by omega) c3 (by rw [show m - 1 + 1 = m by omega]; omega)
          refine ⟨i0, len + 1, by omega, by omega, h3, h4, h5, h6, ?_, by omega, fun x hx => ?_, fun i hi g1 g2 => ?_⟩
          · rw [pk_us, h7, nI_1]
          · rcases Nat.lt_or_ge x len with t | t
            · exact h9 x t
            · rw [show i0 + x = m by omega]
              exact ⟨z, by rw [ec]; omega⟩
          · rcases Nat.lt_or_ge i m with t | t
            · have := h10 i t g1 g2; omega
            · omega
        · refine ⟨i0, len, by omega, h2, h3, h4, h5, h6, (pk_un y).trans h7, h8, h9, fun i hi g1 g2 => ?_⟩
          rcases Nat.lt_or_ge i m with t | t
          · exact h10 i t g1 g2
          · obtain rfl : i = m := by omega
            rw [ec] at g2
            omega
      · rw [if_neg z]
        refine ⟨i0, len, by omega, h2, h3, h4, h5, h6, h7, h8, h9, fun i hi g1 g2 => ?_⟩
        rcases Nat.lt_or_ge i m with t | t
        · exact h10 i t g1 g2
        · obtain rfl : i = m := by omega
          exact absurd g1 z
theorem lgN_iff {S : Nat → Bool} {i a : Nat} (h : S i = true) : lgN S i = a ↔ cnt S (i + 1) = a + 1 := by
  have : 1 ≤ cnt S (i + 1) := by
    by_cases q : stt S i = true
    · rw [cnt, if_pos q]; omega
    · rw [cnt, if_neg q]; exact (cnt_pos h (not_t q)).1
  unfold lgN
  omega
/-- a ledge of the level: its row, its first column, its length; its cells are just those -/
theorem ledge_run {S : KS} {a : Nat} (ha : a < nS S) : ∃ r c n : Nat, r < 10 ∧ 1 ≤ n ∧ c + n ≤ 20 ∧ ledgeS S a 0 = nI r ∧ ledgeS S a 1 = nI c ∧ ledgeS S a 2 = nI n ∧
    (∀ x, x < n → SB (Bk S.1) (20 * r + (c + x)) = true ∧ lgN (SB (Bk S.1)) (20 * r + (c + x)) = a) ∧ (∀ i, i < 200 → SB (Bk S.1) i = true → lgN (SB (Bk S.1)) i = a → ∃ x, x < n ∧ i = 20 * r + (c + x)) := by
  obtain ⟨i0, len, h1, h2, h3, h4, h5, h6, h7, h8, h9, h10⟩ := lg_run (SB (Bk S.1)) (fun j => nI (j / 20)) (fun j => nI (j % 20)) (fun _ => 0) (fun _ => 0) (fun _ => 0) 200 a ha
  refine ⟨i0 / 20, i0 % 20, len, by omega, h2, h8, h5, h6, h7, fun x hx => ?_, fun i hi g1 g2 => ?_⟩
  · rw [show 20 * (i0 / 20) + (i0 % 20 + x) = i0 + x by omega]
    obtain ⟨e1, e2⟩ := h9 x hx
    exact ⟨e1, (lgN_iff e1).mpr e2⟩
  · obtain ⟨e1, e2⟩ := h10 i hi g1 ((lgN_iff g1).mp g2)
    exact ⟨i - i0, by omega, by omega⟩
/-! sums -/
def sumN (f : Nat → Nat) : Nat → Nat
  | 0 => 0
  | n + 1 => sumN f n + f n
theorem sumN_cong {f g : Nat → Nat} : ∀ {n : Nat}, (∀ i, i < n → f i = g i) → sumN f n = sumN g n := by
  intro n
  induction n with
  | zero => intro _; rfl
  | succ n ih => intro h; rw [sumN, sumN, ih (fun i hi => h i (by omega)), h n (Nat.lt_succ_self n)]
theorem sumN_add (f g : Nat → Nat) : ∀ n, sumN (fun i => f i + g i) n = sumN f n + sumN g n := by
  intro n
  induction n with
  | zero => rfl
  | succ n ih => rw [sumN, sumN, sumN, ih]; omega
theorem sumN_0 : ∀ n, sumN (fun _ => 0) n = 0 := by
  intro n
  induction n with
  | zero => rfl
  | succ n ih => rw [sumN, ih]
theorem cntB_s (p : Nat → Bool) (n : Nat) : cntB p (n + 1) = cntB p n + (if p n = true then 1 else 0) := by
  rw [cntB]
  split <;> rfl
theorem sum_swap (p : Nat → Nat → Bool) (m : Nat) : ∀ n, sumN (fun a => cntB (fun i => p a i) m) n = sumN (fun i => cntB (fun a => p a i) n) m := by
  intro n
  induction n with
  | zero =>
    rw [sumN]
    exact (sumN_0 m).symm
  | succ n ih =>
    rw [sumN, ih]
    have : ∀ m, cntB (fun i => p n i) m = sumN (fun i => if p n i = true then 1 else 0) m := by
      intro m
      induction m with
      | zero => rfl
      | succ m ihm => rw [cntB_s, sumN, ihm]
    rw [this m, ← sumN_add]
    exact sumN_cong fun i _ => (cntB_s (fun a => p a i) n).symm
theorem cntB_none {p : Nat → Bool} : ∀ {n : Nat}, (∀ i, i < n → p i = false) → cntB p n = 0 := by
  intro n
  induction n with
  | zero => intro _; rfl
  | succ n ih => intro h; rw [cntB_f (h n (Nat.lt_succ_self n)), ih (fun i hi => h i (by omega))]
theorem cntB_one {p : Nat → Bool} {k : Nat} : ∀ {n : Nat}, k < n → (∀ i, i < n → (p i = true ↔ i = k)) → cntB p n = 1 := by
  intro n
  induction n with
  | zero => intro h; omega
  | succ n ih =>
    intro hk h
    by_cases q : k = n
    · subst q
      rw [cntB_t ((h k hk).mpr rfl), cntB_none (fun i hi => not_t fun z => by have := (h i (by omega)).mp z; omega)]
    · rw [cntB_f (not_t fun z => q ((h n (Nat.lt_succ_self n)).mp z).symm)]
      exact ih (by omega) (fun i hi => h i (by omega))
theorem cntB_int {p : Nat → Bool} {lo len : Nat} : ∀ {n : Nat}, (∀ i, i < n → (p i = true ↔ lo ≤ i ∧ i < lo + len)) → cntB p n = min (n - lo) len := by
  intro n
  induction n with
  | zero => intro _; show 0 = min (0 - lo) len; omega
  | succ n ih =>
    intro h
    rw [cntB_s, ih (fun i hi => h i (by omega))]
    by_cases q : p n = true
    · rw [if_pos q]
      have := (h n (Nat.lt_succ_self n)).mp q
      omega
    · rw [if_neg q]
      have : ¬ (lo ≤ n ∧ n < lo + len) := fun z => q ((h n (Nat.lt_succ_self n)).mpr z)
      omega
def lenN (S : KS) (a : Nat) : Nat := cntB (fun i => SB (Bk S.1) i && decide (lgN (SB (Bk S.1)) i = a)) 200
theorem ledge_len {S : KS} {a : Nat} (ha : a < nS S) : ledgeS S a 2 = nI (lenN S a) := by
  obtain ⟨r, c, n, hr, hn, hcn, e0, e1, e2, h1, h2⟩ := ledge_run ha
  rw [e2]
  refine congrArg nI ?_
  unfold lenN
  rw [cntB_int (lo := 20 * r + c) (len := n) (fun i hi => ?_)]
  · omega
  · rw [Bool.and_eq_true, decide_eq_true_iff]
    constructor
    · rintro ⟨g1, g2⟩
      obtain ⟨x, hx, e⟩ := h2 i hi g1 g2
      omega
    · rintro ⟨g1, g2⟩
      have := h1 (i - (20 * r + c)) (by omega)
      rw [show 20 * r + (c + (i - (20 * r + c))) = i by omega] at this
      exact this
theorem sum_len (S : KS) : sumN (lenN S) (nS S) = cntB (SB (Bk S.1)) 200 := by
  have h1 := sum_swap (fun a i => SB (Bk S.1) i && decide (lgN (SB (Bk S.1)) i = a)) 200 (nS S)
  have h2 : ∀ m, m ≤ 200 → sumN (fun i => cntB (fun a => SB (Bk S.1) i && decide (lgN (SB (Bk S.1)) i = a)) (nS S)) m = cntB (SB (Bk S.1)) m := by
    intro m
    induction m with
    | zero => intro _; rfl
    | succ m ih =>
      intro hm
      rw [sumN, ih (by omega), cntB_s]
      refine congrArg _ ?_
      by_cases q : SB (Bk S.1) m = true
      · rw [if_pos q, cntB_one (k := lgN (SB (Bk S.1)) m) (lgN_lt (by omega) q).1 (fun i hi => ?_)]
        rw [q, Bool.true_and, decide_eq_true_iff]
        exact ⟨fun z => z.symm, fun z => z.symm⟩
      · rw [if_neg q, cntB_none (fun i hi => by rw [not_t q]; rfl)]
  exact h1.trans (h2 200 (Nat.le_refl _))
noncomputable def outN (S : KS) (a : Nat) : Nat := cntB (fun to => !decide (to = a) && RS S 3 a to) (nS S)
noncomputable def inN (S : KS) (a : Nat) : Nat := cntB (fun fr => !decide (fr = a) && RS S 3 fr a) (nS S)
theorem sum_io (S : KS) : sumN (outN S) (nS S) = sumN (inN S) (nS S) := by
  refine (sum_swap (fun a to => !decide (to = a) && RS S 3 a to) (nS S) (nS S)).trans (sumN_cong fun i _ => ?_)
  refine cntB_cong fun k _ => ?_
  by_cases q : i = k
  · subst q; rfl
  · rw [decide_eq_false q, decide_eq_false (fun z => q z.symm)]
theorem cntB_sub {p q : Nat → Bool} (h : ∀ i, p i = true → q i = true) : ∀ n, cntB p n ≤ cntB q n := by
  intro n
  induction n with
  | zero => exact Nat.le_refl _
  | succ n ih =>
    rw [cntB_s, cntB_s]
    by_cases z : p n = true
    · rw [if_pos z, if_pos (h n z)]; omega
    · rw [if_neg z]; omega
theorem ledge_34 {S : KS} {a : Nat} : ∃ x y : Nat, x ≤ y ∧ y ≤ 100 ∧ ledgeS S a 4 = nI x ∧ ledgeS S a 3 = nI y ∧ y = outN S a := by
  have hn : nS S ≤ 100 := nL_le _
  refine ⟨_, _, cntB_sub (fun i h => ?_) (nS S), Nat.le_trans (cntB_le _ _) hn, rfl, rfl, rfl⟩
  rw [Bool.and_eq_true] at h ⊢
  exact ⟨h.1, RS_mono (by decide) h.2⟩
theorem bI_add (n : Nat) (b : Bool) : nI n + bI b = nI (n + (if b = true then 1 else 0)) := by
  cases b
  · show nI n + 0 = nI (n + 0)
    rw [Int32.add_zero]; rfl
  · show nI n + 1 = nI (n + 1)
    exact nI_1 n
theorem cnt_add (p : Nat → Bool) (n : Nat) : nI (cntB p n) + bI (p n) = nI (cntB p (n + 1)) := by rw [bI_add, cntB_s]
theorem cell_0 {S : KS} {k : Nat} (hk : k < 200) : cellS S (k % 20) (k / 20) 0 = bI (S.1 (k % 20) (k / 20)) := by
  show bI (Bk S.1 (nI (k % 20)) (nI (k / 20))) = _
  rw [Bk_in _ (by omega) (by omega)]
theorem cell_1 {S : KS} {k : Nat} : cellS S (k % 20) (k / 20) 1 = bI (SB (Bk S.1) k) := rfl
