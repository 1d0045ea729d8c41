/-! texts of orders -/
def inX (v lo hi : Int32) : Bool := if v < lo then false else if hi < v then false else true
theorem dig_in (c : Int32) : digX c = inX c 48 57 := rfl
def isN (co : Nat → Int32) (n p : Nat) (lo hi : Int32) : Bool := decide (p < n) && inX (co p) lo hi
def dfk (co : Nat → Int32) (e : Int32) (p : Nat) : Nat → Int32
  | 0 => e
  | k + 1 => if dfk co e p k = -1 then -1 else exX (dfk co e p k) (co (p + k))
def dfaE (co : Nat → Int32) (n : Nat) : Int32 := dfk co 0 0 n
def errN (co : Nat → Int32) : Nat → Nat
  | 0 => 0
  | n + 1 => if dfaE co (n + 1) = -1 then errN co n else n + 1
theorem dfk_s {co : Nat → Int32} {e : Int32} {p k : Nat} (h : ¬ dfk co e p k = -1) : dfk co e p (k + 1) = exX (dfk co e p k) (co (p + k)) := by rw [dfk, if_neg h]
theorem dfk_b {co : Nat → Int32} {e : Int32} {p k : Nat} (h : dfk co e p k = -1) : ∀ m, dfk co e p (k + m) = -1 := by
  intro m
  induction m with
  | zero => exact h
  | succ m ih => show dfk co e p ((k + m) + 1) = -1; rw [dfk, if_pos ih]
theorem dfk_add {co : Nat → Int32} {e : Int32} {p a : Nat} : ∀ b, dfk co e p (a + b) = dfk co (dfk co e p a) (p + a) b := by
  intro b
  induction b with
  | zero => rfl
  | succ b ih =>
    show dfk co e p ((a + b) + 1) = _
    rw [dfk, dfk, ih, Nat.add_assoc]
theorem dfk_cong {co co' : Nat → Int32} {e : Int32} {p : Nat} : ∀ {k : Nat}, (∀ j, j < p + k → co' j = co j) → dfk co' e p k = dfk co e p k := by
  intro k
  induction k with
  | zero => intro _; rfl
  | succ k ih => intro h; rw [dfk, dfk, ih (fun j hj => h j (by omega)), h (p + k) (by omega)]
theorem dfaE_cong {co co' : Nat → Int32} {n : Nat} (h : ∀ j, j < n → co' j = co j) : dfaE co' n = dfaE co n := dfk_cong (fun j hj => h j (by omega))
theorem errN_cong {co co' : Nat → Int32} : ∀ {n : Nat}, (∀ j, j < n → co' j = co j) → errN co' n = errN co n := by
  intro n
  induction n with
  | zero => intro _; rfl
  | succ n ih => intro h; rw [errN, errN, ih (fun j hj => h j (by omega)), dfaE_cong h]
theorem errN_ok {co : Nat → Int32} : ∀ {n : Nat}, ¬ dfaE co n = -1 → errN co n = n := by
  intro n h
  cases n with
  | zero => rfl
  | succ n => rw [errN, if_neg h]
theorem dfa_down {co : Nat → Int32} {m n : Nat} (h : m ≤ n) (hn : ¬ dfaE co n = -1) : ¬ dfaE co m = -1 := by
  intro q
  have := dfk_b q (n - m)
  rw [show m + (n - m) = n by omega] at this
  exact hn this
theorem errN_of {co : Nat → Int32} {e : Nat} (h1 : ¬ dfaE co e = -1) : ∀ {n : Nat}, e ≤ n → (e < n → dfaE co (e + 1) = -1) → errN co n = e := by
  intro n
  induction n with
  | zero => intro h _; rw [errN]; omega
  | succ n ih =>
    intro h2 h3
    rcases Nat.lt_or_ge e (n + 1) with q | q
    · have h4 : dfaE co (n + 1) = -1 := by
        have := dfk_b (h3 q) (n - e)
        rw [show e + 1 + (n - e) = n + 1 by omega] at this
        exact this
      rw [errN, if_pos h4]
      exact ih (by omega) (fun z => h3 q)
    · obtain rfl : e = n + 1 := by omega
      exact errN_ok h1
/-- the buffer's own finds -/
def TxOK (co : Nat → Int32) (n : Nat) (te twp : Int32) : Prop := te = dfaE co n ∧ (te = -1 → twp = nI (errN co n))
theorem TxOK.nil (co : Nat → Int32) (twp : Int32) : TxOK co 0 0 twp := ⟨rfl, fun h => absurd h (by decide)⟩
theorem TxOK.add {co : Nat → Int32} {n : Nat} {te twp a : Int32} (h : TxOK co n te twp) : TxOK (upd co n a) (n + 1) (if te = -1 then -1 else exX te a) (if te = -1 then twp else nI n) := by
  obtain ⟨h1, h2⟩ := h
  have hc : ∀ j, j < n → upd co n a j = co j := fun j hj => pk_un (by omega)
  have e1 : dfaE (upd co n a) n = te := by rw [dfaE_cong hc, h1]
  have e2 : dfaE (upd co n a) (n + 1) = if te = -1 then -1 else exX te a := by
    show dfk _ _ _ (n + 1) = _
    rw [dfk, show dfk (upd co n a) 0 0 n = te from e1, show upd co n a (0 + n) = a by rw [Nat.zero_add]; exact pk_us]
  refine ⟨e2.symm, fun q => ?_⟩
  have e3 : errN (upd co n a) (n + 1) = errN (upd co n a) n := by rw [errN, if_pos (by rw [e2]; exact q)]
  rw [e3, errN_cong hc]
  by_cases z : te = -1
  · rw [if_pos z]; exact h2 z
  · rw [if_neg z, errN_ok (by rw [← h1]; exact z)]
theorem TxOK.err {co : Nat → Int32} {n : Nat} {te twp : Int32} (h : TxOK co n te twp) : (if te = -1 then twp else nI n) = nI (errN co n) := by
  by_cases z : te = -1
  · rw [if_pos z]; exact h.2 z
  · rw [if_neg z, errN_ok (by rw [← h.1]; exact z)]
theorem tell_8 {te : Int32} : tellX te = true ↔ te = 8 := by
  unfold tellX
  split
  · rename_i h; exact ⟨fun _ => h, fun _ => rfl⟩
  · rename_i h; exact ⟨fun q => (by cases q), fun q => absurd q h⟩
/-! one order -/
abbrev OT : Type := Bool × (Int32 × Int32 × Int32) × Nat
def mCol (co : Nat → Int32) (n p : Nat) : Bool × Int32 × Nat :=
  if isN co n p 48 57 = true then (if co p - 48 = 1 ∧ isN co n (p + 1) 48 57 = true then (true, 10 + co (p + 1) - 48, p + 2) else (true, co p - 48, p + 1)) else (false, 0, p)
def mOrd (co : Nat → Int32) (n p : Nat) : OT :=
  if ¬ p < n then (false, (0, 0, 0), p)
  else if co p = 98 then
    (if (mCol co n (p + 1)).1 = true then
      (if isN co n (mCol co n (p + 1)).2.2 44 44 = true then
        (if isN co n ((mCol co n (p + 1)).2.2 + 1) 48 57 = true then (true, (98, (mCol co n (p + 1)).2.1, co ((mCol co n (p + 1)).2.2 + 1) - 48), (mCol co n (p + 1)).2.2 + 2)
        else (false, (0, 0, 0), (mCol co n (p + 1)).2.2 + 1))
      else (false, (0, 0, 0), (mCol co n (p + 1)).2.2))
    else (false, (0, 0, 0), p + 1))
  else if co p = 119 then
    (if isN co n (p + 1) 43 43 = true then (true, (119, 1, 0), p + 2) else if isN co n (p + 1) 45 45 = true then (true, (119, -1, 0), p + 2) else (false, (0, 0, 0), p + 1))
  else if co p = 108 then
    (if isN co n (p + 1) 43 43 = true then (if isN co n (p + 2) 48 51 = true then (true, (108, 1, co (p + 2) - 48), p + 3) else (false, (0, 0, 0), p + 2))
     else if isN co n (p + 1) 45 45 = true then (if isN co n (p + 2) 48 51 = true then (true, (108, -1, co (p + 2) - 48), p + 3) else (false, (0, 0, 0), p + 2))
     else (false, (0, 0, 0), p + 1))
  else (false, (0, 0, 0), p)
theorem inX_1 {v c : Int32} : inX v c c = true ↔ v = c := by
  unfold inX
  split
  · rename_i h; exact ⟨fun q => (by cases q), fun q => by subst q; exact absurd h Int32.lt_irrefl⟩
  · rename_i h
    split
    · rename_i h2; exact ⟨fun q => (by cases q), fun q => by subst q; exact absurd h2 Int32.lt_irrefl⟩
    · rename_i h2; exact ⟨fun _ => Int32.le_antisymm (Int32.not_lt.mp h2) (Int32.not_lt.mp h), fun _ => rfl⟩
theorem isN_t {co : Nat → Int32} {n p : Nat} {lo hi : Int32} (h : isN co n p lo hi = true) : p < n ∧ inX (co p) lo hi = true := by
  unfold isN at h
  rw [Bool.and_eq_true] at h
  exact ⟨of_decide_eq_true h.1, h.2⟩
theorem isN_f {co : Nat → Int32} {n p : Nat} {lo hi : Int32} (h : ¬ isN co n p lo hi = true) (hp : p < n) : inX (co p) lo hi = false := by
  unfold isN at h
  rw [Bool.and_eq_true, decide_eq_true hp] at h
  exact not_t (fun q => h ⟨rfl, q⟩)
theorem in_nI {c : Int32} {a b : Nat} (ha : a < 1000) (hb : b < 1000) (h : inX c (nI a) (nI b) = true) : ∃ d, a ≤ d ∧ d ≤ b ∧ c = nI d := by
  unfold inX at h
  split at h
  · cases h
  · rename_i h1
    split at h
    · cases h
    · rename_i h2
      have h3 : ¬ c < 0 := fun q => h1 (Int32.lt_of_lt_of_le q (nI_pos' (by omega)))
      obtain ⟨d, hd, rfl⟩ := nI_of h3
      exact ⟨d, Nat.le_of_not_lt fun q => h1 ((nI_ltI hd (by omega)).mpr q), Nat.le_of_not_lt fun q => h2 ((nI_ltI (by omega) hd).mpr q), rfl⟩
theorem dig_nI {c : Int32} (h : inX c 48 57 = true) : ∃ d, d < 10 ∧ c = nI (48 + d) ∧ c - 48 = nI d ∧ 10 + c - 48 = nI (10 + d) := by
  obtain ⟨e, h1, h2, rfl⟩ := in_nI (a := 48) (b := 57) (by decide) (by decide) h
  refine ⟨e - 48, by omega, by rw [show 48 + (e - 48) = e by omega], ?_, ?_⟩
  · show nI e - nI 48 = _
    rw [pk_sub (by omega)]
  · show nI 10 + nI e - nI 48 = _
    rw [nI_add, pk_sub (by omega)]; congr 1; omega
theorem run_nI {c : Int32} (h : inX c 48 51 = true) : ∃ d, d ≤ 3 ∧ c = nI (48 + d) ∧ c - 48 = nI d := by
  obtain ⟨e, h1, h2, rfl⟩ := in_nI (a := 48) (b := 51) (by decide) (by decide) h
  refine ⟨e - 48, by omega, by rw [show 48 + (e - 48) = e by omega], ?_⟩
  show nI e - nI 48 = _
  rw [pk_sub (by omega)]
theorem run_in (c : Int32) : isRunX (c - 48) = inX c 48 51 := by
  by_cases h : inX c 48 51 = true
  · obtain ⟨d, hd, -, e⟩ := run_nI h
    rw [h, e]
    have : ∀ d, d < 4 → isRunX (nI d) = true := by decide +kernel
    exact this d (by omega)
  · rw [not_t h]
    refine not_t fun q => h ?_
    obtain ⟨k, hk, e⟩ := isRun_nI q
    have e2 : c = nI k + 48 := by rw [← e, Int32.sub_add_cancel]
    rw [e2]
    have : ∀ d, d < 4 → inX (nI d + 48) 48 51 = true := by decide +kernel
    exact this k (by omega)
theorem ex0 (c : Int32) : exX 0 c = exK c := rfl
theorem ex1 (c : Int32) : exX 1 c = if c = 49 then 2 else if digX c = true then 3 else -1 := rfl
theorem ex2 (c : Int32) : exX 2 c = if c = 44 then 4 else if digX c = true then 3 else -1 := rfl
theorem ex3 (c : Int32) : exX 3 c = if c = 44 then 4 else -1 := rfl
theorem ex4 (c : Int32) : exX 4 c = if digX c = true then 8 else -1 := rfl
theorem ex5 (c : Int32) : exX 5 c = if sgnX c = true then 8 else -1 := rfl
theorem ex6 (c : Int32) : exX 6 c = if sgnX c = true then 7 else -1 := rfl
theorem ex7 (c : Int32) : exX 7 c = if isRunX (c - 48) = true then 8 else -1 := rfl
theorem ex8 (c : Int32) : exX 8 c = if c = 59 then 0 else -1 := rfl
/-- where an order ends, and in what state -/
def OrdE (co : Nat → Int32) (n p : Nat) (o : OT) : Prop :=
  p ≤ o.2.2 ∧ o.2.2 ≤ n ∧ (o.1 = true → p + 2 ≤ o.2.2 ∧ dfk co 0 p (o.2.2 - p) = 8) ∧ (o.1 = false → ¬ dfk co 0 p (o.2.2 - p) = -1 ∧ ¬ dfk co 0 p (o.2.2 - p) = 8 ∧ (o.2.2 < n → dfk co 0 p (o.2.2 - p + 1) = -1))
theorem d1_of {co : Nat → Int32} {p : Nat} : dfk co 0 p 1 = exK (co p) := by
  show (if (0 : Int32) = -1 then -1 else exX 0 (co (p + 0))) = _
  rw [if_neg (by decide)]; rfl
theorem dk {co : Nat → Int32} {p k : Nat} {e : Int32} (h : dfk co 0 p k = e) (he : ¬ e = -1) : dfk co 0 p (k + 1) = exX e (co (p + k)) := by rw [dfk_s (by rw [h]; exact he), h]
theorem OrdE.bad {co : Nat → Int32} {n p k : Nat} {e : Int32} {x : Int32 × Int32 × Int32} (hk : p + k ≤ n) (h : dfk co 0 p k = e) (h1 : ¬ e = -1) (h2 : ¬ e = 8) (h3 : p + k < n → exX e (co (p + k)) = -1) : OrdE co n p (false, x, p + k) := by
  refine ⟨Nat.le_add_right _ _, hk, fun q => (by cases q), fun _ => ?_⟩
  show ¬ dfk co 0 p (p + k - p) = -1 ∧ ¬ dfk co 0 p (p + k - p) = 8 ∧ (p + k < n → dfk co 0 p (p + k - p + 1) = -1)
  rw [Nat.add_sub_cancel_left, h]
  exact ⟨h1, h2, fun q => by rw [dk h h1]; exact h3 q⟩
theorem OrdE.good {co : Nat → Int32} {n p k : Nat} {x : Int32 × Int32 × Int32} (hk : p + k ≤ n) (h2 : 2 ≤ k) (h : dfk co 0 p k = 8) : OrdE co n p (true, x, p + k) := by
  refine ⟨Nat.le_add_right _ _, hk, fun _ => ⟨Nat.add_le_add_left h2 p, ?_⟩, fun q => (by cases q)⟩
  show dfk co 0 p (p + k - p) = 8
  rw [Nat.add_sub_cancel_left, h]
theorem exK_b : exK 98 = 1 ∧ exK 119 = 5 ∧ exK 108 = 6 := by decide
theorem sgn_in (c : Int32) : sgnX c = true ↔ (c = 43 ∨ c = 45) := by
  unfold sgnX
  split
  · rename_i h; exact ⟨fun _ => Or.inl h, fun _ => rfl⟩
  · rename_i h
    split
    · rename_i h2; exact ⟨fun _ => Or.inr h2, fun _ => rfl⟩
    · rename_i h2; exact ⟨fun q => (by cases q), fun q => by rcases q with q | q; exact absurd q h; exact absurd q h2⟩
theorem not_sgn {co : Nat → Int32} {n p : Nat} (h1 : ¬ isN co n p 43 43 = true) (h2 : ¬ isN co n p 45 45 = true) (hp : p < n) : ¬ sgnX (co p) = true := by
  have a := isN_f h1 hp
  have b := isN_f h2 hp
  intro q
  rcases (sgn_in _).mp q with q | q
  · rw [inX_1.mpr q] at a; cases a
  · rw [inX_1.mpr q] at b; cases b
/-- behind the column -/
theorem col_E {co : Nat → Int32} {n p : Nat} (h0 : dfk co 0 p 1 = 1) : 
    ((mCol co n (p + 1)).1 = true → ∃ k e, (k = 2 ∨ k = 3) ∧ (mCol co n (p + 1)).2.2 = p + k ∧ p + k ≤ n ∧ dfk co 0 p k = e ∧ ((e = 2 ∧ ¬ isN co n (p + k) 48 57 = true) ∨ e = 3)) ∧
    (¬ (mCol co n (p + 1)).1 = true → p + 1 < n → inX (co (p + 1)) 48 57 = false) := by
  unfold mCol
  by_cases q : isN co n (p + 1) 48 57 = true
  · rw [if_pos q]
    obtain ⟨q1, q2⟩ := isN_t q
    have e2 := dk h0 (by decide)
    rw [ex1] at e2
    by_cases z : co (p + 1) - 48 = 1
    · have z1 : co (p + 1) = 49 := by rw [← Int32.sub_add_cancel (co (p + 1)) 48, z]; decide
      rw [if_pos z1] at e2
      by_cases y : isN co n (p + 1 + 1) 48 57 = true
      · rw [if_pos ⟨z, y⟩]
        obtain ⟨y1, y2⟩ := isN_t y
        have e3 := dk e2 (by decide)
        rw [ex2, if_neg (fun w => by rw [show p + 2 = p + 1 + 1 from rfl] at w; rw [w] at y2; revert y2; decide), if_pos (show digX (co (p + (1 + 1))) = true from y2)] at e3
        exact ⟨fun _ => ⟨3, 3, Or.inr rfl, rfl, by omega, e3, Or.inr rfl⟩, fun w => absurd rfl w⟩
      · rw [if_neg (fun w => y w.2)]
        exact ⟨fun _ => ⟨2, 2, Or.inl rfl, rfl, by omega, e2, Or.inl ⟨rfl, y⟩⟩, fun w => absurd rfl w⟩
    · rw [if_neg (fun w => z w.1)]
      rw [if_neg (fun w => z (by rw [w]; decide)), if_pos (show digX (co (p + 1)) = true from q2)] at e2
      exact ⟨fun _ => ⟨2, 3, Or.inl rfl, rfl, by omega, e2, Or.inr rfl⟩, fun w => absurd rfl w⟩
  · rw [if_neg q]
    exact ⟨fun w => (by cases w), fun _ hp => isN_f q hp⟩
theorem ord_E {co : Nat → Int32} {n p : Nat} (hp : p ≤ n) : OrdE co n p (mOrd co n p) := by
  unfold mOrd
  by_cases h0 : p < n
  · rw [if_neg (fun q => q h0)]
    have e1 := @d1_of co p
    by_cases hb : co p = 98
    · rw [if_pos hb]
      rw [hb, exK_b.1] at e1
      obtain ⟨c1, c2⟩ := @col_E co n p e1
      by_cases hc : (mCol co n (p + 1)).1 = true
      · rw [if_pos hc]
        obtain ⟨k, e, hk, e2, hkn, e3, he⟩ := c1 hc
        rw [e2]
        have hne : ¬ e = -1 ∧ ¬ e = 8 := by rcases he with ⟨rfl, -⟩ | rfl <;> decide
        by_cases h44 : isN co n (p + k) 44 44 = true
        · rw [if_pos h44]
          obtain ⟨a1, a2⟩ := isN_t h44
          have e4 : dfk co 0 p (k + 1) = 4 := by
            rw [dk e3 hne.1, inX_1.mp a2]
            rcases he with ⟨rfl, -⟩ | rfl <;> decide
          by_cases hd : isN co n (p + k + 1) 48 57 = true
          · rw [if_pos hd]
            obtain ⟨b1, b2⟩ := isN_t hd
            refine OrdE.good (k := k + 2) (by omega) (by omega) ?_
            rw [dk e4 (by decide), ex4, if_pos (show digX (co (p + (k + 1))) = true from b2)]
          · rw [if_neg hd]
            refine OrdE.bad (k := k + 1) (by omega) e4 (by decide) (by decide) (fun q => ?_)
            have := isN_f hd q
            rw [ex4, if_neg (by rw [show digX (co (p + (k + 1))) = false from this]; decide)]
        · rw [if_neg h44]
          refine OrdE.bad hkn e3 hne.1 hne.2 (fun q => ?_)
          have a := isN_f h44 q
          have a2 : ¬ co (p + k) = 44 := fun w => by rw [inX_1.mpr w] at a; cases a
          rcases he with ⟨rfl, h9⟩ | rfl
          · rw [ex2, if_neg a2, if_neg (by rw [show digX (co (p + k)) = false from isN_f h9 q]; decide)]
          · rw [ex3, if_neg a2]
      · rw [if_neg hc]
        refine OrdE.bad (k := 1) (by omega) e1 (by decide) (by decide) (fun q => ?_)
        have := c2 hc q
        rw [ex1, if_neg (fun w => by rw [w] at this; revert this; decide), if_neg (by rw [show digX (co (p + 1)) = false from this]; decide)]
    · rw [if_neg hb]
      by_cases hw : co p = 119
      · rw [if_pos hw]
        rw [hw, exK_b.2.1] at e1
        by_cases s1 : isN co n (p + 1) 43 43 = true
        · rw [if_pos s1]
          obtain ⟨a1, a2⟩ := isN_t s1
          refine OrdE.good (k := 2) (by omega) (by omega) ?_
          rw [dk e1 (by decide), ex5, if_pos ((sgn_in _).mpr (Or.inl (inX_1.mp a2)))]
        · rw [if_neg s1]
          by_cases s2 : isN co n (p + 1) 45 45 = true
          · rw [if_pos s2]
            obtain ⟨a1, a2⟩ := isN_t s2
            refine OrdE.good (k := 2) (by omega) (by omega) ?_
            rw [dk e1 (by decide), ex5, if_pos ((sgn_in _).mpr (Or.inr (inX_1.mp a2)))]
          · rw [if_neg s2]
            exact OrdE.bad (k := 1) (by omega) e1 (by decide) (by decide) (fun q => by rw [ex5, if_neg (not_sgn s1 s2 q)])
      · rw [if_neg hw]
        by_cases hl : co p = 108
        · rw [if_pos hl]
          rw [hl, exK_b.2.2] at e1
          have hs : ∀ sg : Int32, sgnX (co (p + 1)) = true → p + 1 < n → OrdE co n p (if isN co n (p + 2) 48 51 = true then (true, (108, sg, co (p + 2) - 48), p + 3) else (false, (0, 0, 0), p + 2)) := by
            intro sg hg h1n
            have e2 : dfk co 0 p 2 = 7 := by rw [dk e1 (by decide), ex6, if_pos hg]
            by_cases hr : isN co n (p + 2) 48 51 = true
            · rw [if_pos hr]
              obtain ⟨b1, b2⟩ := isN_t hr
              refine OrdE.good (k := 3) (by omega) (by omega) ?_
              rw [dk e2 (by decide), ex7, if_pos (by rw [run_in]; exact b2)]
            · rw [if_neg hr]
              refine OrdE.bad (k := 2) (by omega) e2 (by decide) (by decide) (fun q => ?_)
              rw [ex7, if_neg (by rw [run_in, isN_f hr q]; decide)]
          by_cases s1 : isN co n (p + 1) 43 43 = true
          · rw [if_pos s1]
            obtain ⟨a1, a2⟩ := isN_t s1
            exact hs 1 ((sgn_in _).mpr (Or.inl (inX_1.mp a2))) a1
          · rw [if_neg s1]
            by_cases s2 : isN co n (p + 1) 45 45 = true
            · rw [if_pos s2]
              obtain ⟨a1, a2⟩ := isN_t s2
              exact hs (-1) ((sgn_in _).mpr (Or.inr (inX_1.mp a2))) a1
            · rw [if_neg s2]
              exact OrdE.bad (k := 1) (by omega) e1 (by decide) (by decide) (fun q => by rw [ex6, if_neg (not_sgn s1 s2 q)])
        · rw [if_neg hl]
          refine OrdE.bad (k := 0) (e := 0) hp rfl (by decide) (by decide) (fun _ => ?_)
          show exX 0 (co p) = -1
          rw [ex0, exK, if_neg hb, if_neg hl, if_neg hw]
  · rw [if_pos h0]
    exact OrdE.bad (k := 0) (e := 0) hp rfl (by decide) (by decide) (fun q => absurd q h0)
/-! a whole text -/
def mTxt (co : Nat → Int32) (n : Nat) : Nat → Nat → Bool × Nat
  | 0, p => (false, p)
  | f + 1, p => if (mOrd co n p).1 = true then (if (mOrd co n p).2.2 = n then (true, n) else if co (mOrd co n p).2.2 = 59 then mTxt co n f ((mOrd co n p).2.2 + 1) else (false, (mOrd co n p).2.2)) else (false, (mOrd co n p).2.2)
theorem txt_dfa {co : Nat → Int32} {n : Nat} : ∀ (f p : Nat), n - p < f → p ≤ n → dfaE co p = 0 → ((mTxt co n f p).1 = true ↔ dfaE co n = 8) ∧ (mTxt co n f p).2 = errN co n := by
  intro f
  induction f with
  | zero => intro p h _ _; exact absurd h (Nat.not_lt_zero _)
  | succ f ih =>
    intro p hf hp h0
    have hE := @ord_E co n p hp
    obtain ⟨g1, g2, g3, g4⟩ := hE
    have hd : ∀ k, dfk co 0 p k = dfaE co (p + k) := fun k => by
      show _ = dfk co 0 0 (p + k)
      rw [dfk_add, show dfk co 0 0 p = 0 from h0, Nat.zero_add]
    rw [mTxt]
    generalize mOrd co n p = o at g1 g2 g3 g4
    by_cases h1 : o.1 = true
    · rw [if_pos h1]
      obtain ⟨a1, a2⟩ := g3 h1
      rw [hd, show p + (o.2.2 - p) = o.2.2 by omega] at a2
      by_cases hn : o.2.2 = n
      · rw [if_pos hn]
        rw [hn] at a2
        exact ⟨⟨fun _ => a2, fun _ => rfl⟩, (errN_ok (by rw [a2]; decide)).symm⟩
      · rw [if_neg hn]
        have e1 : dfaE co (o.2.2 + 1) = exX 8 (co o.2.2) := by
          show dfk co 0 0 (o.2.2 + 1) = _
          rw [dfk_s (by rw [show dfk co 0 0 o.2.2 = 8 from a2]; decide), show dfk co 0 0 o.2.2 = 8 from a2, Nat.zero_add]
        rw [ex8] at e1
        by_cases h59 : co o.2.2 = 59
        · rw [if_pos h59] at e1 ⊢
          exact ih (o.2.2 + 1) (by omega) (by omega) e1
        · rw [if_neg h59] at e1 ⊢
          have hnn : dfaE co n = -1 := by
            have := dfk_b (co := co) (e := 0) (p := 0) (k := o.2.2 + 1) e1 (n - (o.2.2 + 1))
            rw [show o.2.2 + 1 + (n - (o.2.2 + 1)) = n by omega] at this
            exact this
          refine ⟨⟨fun q => (by cases q), fun q => absurd (hnn.symm.trans q) (by decide)⟩, ?_⟩
          exact (errN_of (by rw [a2]; decide) g2 (fun _ => e1)).symm
    · rw [if_neg h1]
      obtain ⟨a1, a2, a3⟩ := g4 (not_t h1)
      rw [hd, show p + (o.2.2 - p) = o.2.2 by omega] at a1 a2
      rw [hd, show p + (o.2.2 - p + 1) = o.2.2 + 1 by omega] at a3
      refine ⟨⟨fun q => (by cases q), fun q => ?_⟩, (errN_of a1 g2 a3).symm⟩
      exfalso
      rcases Nat.lt_or_ge o.2.2 n with z | z
      · have := dfk_b (co := co) (e := 0) (p := 0) (k := o.2.2 + 1) (a3 z) (n - (o.2.2 + 1))
        rw [show o.2.2 + 1 + (n - (o.2.2 + 1)) = n by omega] at this
        rw [show dfaE co n = -1 from this] at q
        revert q; decide
      · rw [show o.2.2 = n by omega] at a2
        exact a2 q
/-! orders done -/
def mK (S : KS) (x : Int32 × Int32 × Int32) : KS × Int32 := if x.1 = 98 then buildK S x.2.1.toNatClampNeg x.2.2.toNatClampNeg else if x.1 = 119 then walkK S x.2.1 else leapK S x.2.1 x.2.2.toNatClampNeg
def runK (co : Nat → Int32) (n : Nat) : Nat → Nat → KS → Nat → KS × Nat
  | 0, _, S, d => (S, d)
  | f + 1, p, S, d => if (mOrd co n p).1 = true then (if (mK S (mOrd co n p).2.1).2 = -1 then ((mK S (mOrd co n p).2.1).1, d) else if (mOrd co n p).2.2 = n then ((mK S (mOrd co n p).2.1).1, d + 1) else runK co n f ((mOrd co n p).2.2 + 1) (mK S (mOrd co n p).2.1).1 (d + 1)) else (S, d)
theorem ord_le {co : Nat → Int32} {n p : Nat} (hp : p ≤ n) (h : (mOrd co n p).1 = true) : p + 2 ≤ (mOrd co n p).2.2 ∧ (mOrd co n p).2.2 ≤ n := ⟨((ord_E hp).2.2.1 h).1, (ord_E hp).2.1⟩
theorem runK_fuel {co : Nat → Int32} {n : Nat} : ∀ (f g p : Nat) (S : KS) (d : Nat), n + 1 - p < f → n + 1 - p < g → p ≤ n + 1 → runK co n f p S d = runK co n g p S d := by
  intro f
  induction f with
  | zero => intro g p S d h; exact absurd h (Nat.not_lt_zero _)
  | succ f ih =>
    intro g p S d hf hg hp
    cases g with
    | zero => exact absurd hg (Nat.not_lt_zero _)
    | succ g =>
      rw [runK, runK]
      by_cases h1 : (mOrd co n p).1 = true
      · rw [if_pos h1, if_pos h1]
        by_cases h2 : (mK S (mOrd co n p).2.1).2 = -1
        · rw [if_pos h2, if_pos h2]
        · rw [if_neg h2, if_neg h2]
          by_cases h3 : (mOrd co n p).2.2 = n
          · rw [if_pos h3, if_pos h3]
          · rw [if_neg h3, if_neg h3]
            have hpn : p ≤ n := by
              apply Nat.le_of_not_lt
              intro q
              unfold mOrd at h1
              rw [if_pos (show ¬ p < n by omega)] at h1
              cases h1
            have := ord_le hpn h1
            exact ih _ _ _ _ (by omega) (by omega) (by omega)
      · rw [if_neg h1, if_neg h1]
theorem ord_at {co : Nat → Int32} {n p : Nat} (hp : p < n) (h0 : dfaE co p = 0) (h8 : dfaE co n = 8) : (mOrd co n p).1 = true ∧ ((mOrd co n p).2.2 = n ∨ (co (mOrd co n p).2.2 = 59 ∧ (mOrd co n p).2.2 + 1 < n ∧ dfaE co ((mOrd co n p).2.2 + 1) = 0)) := by
  obtain ⟨g1, g2, g3, g4⟩ := @ord_E co n p (by omega)
  have hd : ∀ k, dfk co 0 p k = dfaE co (p + k) := fun k => by
    show _ = dfk co 0 0 (p + k)
    rw [dfk_add, show dfk co 0 0 p = 0 from h0, Nat.zero_add]
  generalize mOrd co n p = o at g1 g2 g3 g4
  have hx : ∀ m, m ≤ n → ¬ dfaE co m = -1 := fun m hm => dfa_down hm (by rw [h8]; decide)
  by_cases h1 : o.1 = true
  · refine ⟨h1, ?_⟩
    obtain ⟨a1, a2⟩ := g3 h1
    rw [hd, show p + (o.2.2 - p) = o.2.2 by omega] at a2
    by_cases hn : o.2.2 = n
    · exact Or.inl hn
    · refine Or.inr ?_
      have e1 : dfaE co (o.2.2 + 1) = exX 8 (co o.2.2) := by
        show dfk co 0 0 (o.2.2 + 1) = _
        rw [dfk_s (by rw [show dfk co 0 0 o.2.2 = 8 from a2]; decide), show dfk co 0 0 o.2.2 = 8 from a2, Nat.zero_add]
      rw [ex8] at e1
      by_cases h59 : co o.2.2 = 59
      · rw [if_pos h59] at e1
        refine ⟨h59, ?_, e1⟩
        rcases Nat.lt_or_ge (o.2.2 + 1) n with z | z
        · exact z
        · exfalso
          rw [show o.2.2 + 1 = n by omega, h8] at e1
          revert e1; decide
      · rw [if_neg h59] at e1
        exact absurd e1 (hx _ (by omega))
  · exfalso
    obtain ⟨a1, a2, a3⟩ := g4 (not_t h1)
    rw [hd, show p + (o.2.2 - p) = o.2.2 by omega] at a2
    rw [hd, show p + (o.2.2 - p + 1) = o.2.2 + 1 by omega] at a3
    rcases Nat.lt_or_ge o.2.2 n with z | z
    · exact hx _ (by omega) (a3 z)
    · rw [show o.2.2 = n by omega] at a2
      exact a2 h8
/-! the class's reading of an order -/
theorem num1 {co : Nat → Int32} {n q : Nat} (hq : q < n) (h : digX (co q) = true) (hs : q + 1 < n → digX (co (q + 1)) = false) : numF co n 2 q 0 = (co q - 48, q + 1) := by
  rw [numF, if_pos hq, if_pos h]
  have e : 10 * 0 + co q - 48 = co q - 48 := by rw [show (10 * 0 : Int32) = 0 by decide, Int32.zero_add]
  rw [e, numF]
  by_cases z : q + 1 < n
  · rw [if_pos z, if_neg (by rw [hs z]; decide)]
  · rw [if_neg z]
theorem num2 {co : Nat → Int32} {n q : Nat} (hq : q + 1 < n) (h : co q = 49) (h2 : digX (co (q + 1)) = true) (hs : q + 2 < n → digX (co (q + 2)) = false) : numF co n 2 q 0 = (10 + co (q + 1) - 48, q + 2) := by
  rw [numF, if_pos (by omega), if_pos (by rw [h]; decide), h]
  have e : (10 * 0 + 49 - 48 : Int32) = 1 := by decide
  rw [e, numF, if_pos hq, if_pos h2]
  have e : 10 * 1 + co (q + 1) - 48 = 10 + co (q + 1) - 48 := by rw [show (10 * 1 : Int32) = 10 by decide]
  rw [e]
  rfl
theorem col_num {co : Nat → Int32} {n q : Nat} (h : (mCol co n q).1 = true) (hc : isN co n (mCol co n q).2.2 44 44 = true) : numF co n 2 q 0 = (mCol co n q).2 ∧ ∃ i, i < 20 ∧ (mCol co n q).2.1 = nI i := by
  unfold mCol at h hc ⊢
  by_cases h1 : isN co n q 48 57 = true
  · rw [if_pos h1] at h hc ⊢
    obtain ⟨a1, a2⟩ := isN_t h1
    by_cases h2 : co q - 48 = 1 ∧ isN co n (q + 1) 48 57 = true
    · rw [if_pos h2] at h hc ⊢
      obtain ⟨b1, b2⟩ := isN_t h2.2
      obtain ⟨c1, c2⟩ := isN_t hc
      have c3 : co (q + 2) = 44 := inX_1.mp c2
      obtain ⟨d, hd, -, -, e⟩ := dig_nI b2
      refine ⟨num2 b1 (by rw [← Int32.sub_add_cancel (co q) 48, h2.1]; decide) b2 (fun _ => by rw [c3]; decide), 10 + d, by omega, e⟩
    · rw [if_neg h2] at h hc ⊢
      obtain ⟨c1, c2⟩ := isN_t hc
      have c3 : co (q + 1) = 44 := inX_1.mp c2
      obtain ⟨d, hd, -, e, -⟩ := dig_nI a2
      exact ⟨num1 a1 a2 (fun _ => by rw [c3]; decide), d, by omega, e⟩
  · rw [if_neg h1] at h
    cases h
theorem at60 {co : Nat → Int32} {p : Nat} (h : p < 60) : atX 60 co (nI p) = co p := at_nI h (by decide)
theorem n119 : ¬ (119 : Int32) = 98 := by decide
theorem n108 : ¬ (108 : Int32) = 98 := by decide
theorem n108w : ¬ (108 : Int32) = 119 := by decide
theorem ordK_b (S : KS) (c r d u : Int32) : ordK S 98 c r d u = buildK S c.toNatClampNeg r.toNatClampNeg := by unfold ordK; exact if_pos rfl
theorem ordK_w (S : KS) (c r d u : Int32) : ordK S 119 c r d u = walkK S d := by unfold ordK; rw [if_neg (by decide)]; exact if_pos rfl
theorem ordK_l (S : KS) (c r d u : Int32) : ordK S 108 c r d u = leapK S d u.toNatClampNeg := by unfold ordK; rw [if_neg (by decide)]; exact if_neg (by decide)
theorem mK_b (S : KS) (c r : Int32) : mK S (98, c, r) = buildK S c.toNatClampNeg r.toNatClampNeg := by unfold mK; exact if_pos rfl
theorem mK_w (S : KS) (c r : Int32) : mK S (119, c, r) = walkK S c := (if_neg n119).trans (if_pos rfl)
theorem mK_l (S : KS) (c r : Int32) : mK S (108, c, r) = leapK S c r.toNatClampNeg := (if_neg n108).trans (if_neg n108w)
/-- what the class reads is what stands there -/
theorem rd_ord {co : Nat → Int32} {n p : Nat} (hn : n ≤ 60) (hp : p < n) (h1 : (mOrd co n p).1 = true) (h2 : (mOrd co n p).2.2 = n ∨ co (mOrd co n p).2.2 = 59) (tc tr ts tu : Int32) :
    (rdF co n p tc tr ts tu).2.2.2.2.2 = (mOrd co n p).2.2 + 1 ∧ OrdOK (rdF co n p tc tr ts tu).1 (rdF co n p tc tr ts tu).2.1 (rdF co n p tc tr ts tu).2.2.1 (rdF co n p tc tr ts tu).2.2.2.1 (rdF co n p tc tr ts tu).2.2.2.2.1 ∧
    ∀ S, ordK S (rdF co n p tc tr ts tu).1 (rdF co n p tc tr ts tu).2.1 (rdF co n p tc tr ts tu).2.2.1 (rdF co n p tc tr ts tu).2.2.2.1 (rdF co n p tc tr ts tu).2.2.2.2.1 = mK S (mOrd co n p).2.1 := by
  have hle := ord_le (Nat.le_of_lt hp) h1
  unfold mOrd at h1 h2 hle ⊢
  rw [if_neg (fun q => q hp)] at h1 h2 hle ⊢
  unfold rdF
  rw [at60 (show p < 60 by omega)]
  by_cases hb : co p = 98
  · rw [if_pos hb] at h1 h2 hle ⊢
    rw [if_pos hb]
    by_cases hc : (mCol co n (p + 1)).1 = true
    · rw [if_pos hc] at h1 h2 hle ⊢
      by_cases h44 : isN co n (mCol co n (p + 1)).2.2 44 44 = true
      · rw [if_pos h44] at h1 h2 hle ⊢
        by_cases hd : isN co n ((mCol co n (p + 1)).2.2 + 1) 48 57 = true
        · rw [if_pos hd] at h1 h2 hle ⊢
          obtain ⟨e1, i, hi, e2⟩ := col_num hc h44
          obtain ⟨b1, b2⟩ := isN_t hd
          obtain ⟨d, hd9, -, e3, -⟩ := dig_nI b2
          have e4 : numF co n 2 ((numF co n 2 (p + 1) 0).2 + 1) 0 = (co ((mCol co n (p + 1)).2.2 + 1) - 48, (mCol co n (p + 1)).2.2 + 2) := by
            rw [e1]
            refine num1 b1 b2 (fun z => ?_)
            rcases h2 with h2 | h2
            · exact absurd h2 (by show ¬ (mCol co n (p + 1)).2.2 + 2 = n; omega)
            · have h2 : co ((mCol co n (p + 1)).2.2 + 2) = 59 := h2
              show digX (co ((mCol co n (p + 1)).2.2 + 2)) = false
              rw [h2]; decide
          refine ⟨?_, ?_, fun S => ?_⟩
          · show (numF co n 2 ((numF co n 2 (p + 1) 0).2 + 1) 0).2 + 1 = _
            rw [e4]
          · refine Or.inl ⟨rfl, i, d, hi, hd9, ?_, ?_⟩
            · show (numF co n 2 (p + 1) 0).1 = nI i
              rw [e1, e2]
            · show (numF co n 2 ((numF co n 2 (p + 1) 0).2 + 1) 0).1 = nI d
              rw [e4, e3]
          · show ordK S 98 (numF co n 2 (p + 1) 0).1 (numF co n 2 ((numF co n 2 (p + 1) 0).2 + 1) 0).1 ts tu = _
            rw [e4, e1]
            exact (ordK_b S _ _ _ _).trans (mK_b S _ _).symm
        · rw [if_neg hd] at h1; cases h1
      · rw [if_neg h44] at h1; cases h1
    · rw [if_neg hc] at h1; cases h1
  · rw [if_neg hb] at h1 h2 hle ⊢
    rw [if_neg hb]
    by_cases hw : co p = 119
    · rw [if_pos hw] at h1 h2 hle ⊢
      rw [if_neg (by rw [hw]; decide), hw]
      by_cases s1 : isN co n (p + 1) 43 43 = true
      · rw [if_pos s1] at h1 h2 hle ⊢
        obtain ⟨a1, a2⟩ := isN_t s1
        rw [at60 (show p + 1 < 60 by omega), if_pos (inX_1.mp a2)]
        exact ⟨rfl, Or.inr (Or.inl ⟨n119, rfl⟩), fun S => (ordK_w S _ _ _ _).trans (mK_w S _ _).symm⟩
      · rw [if_neg s1] at h1 h2 hle ⊢
        by_cases s2 : isN co n (p + 1) 45 45 = true
        · rw [if_pos s2] at h1 h2 hle ⊢
          obtain ⟨a1, a2⟩ := isN_t s2
          rw [at60 (show p + 1 < 60 by omega), if_neg (by rw [inX_1.mp a2]; decide)]
          exact ⟨rfl, Or.inr (Or.inl ⟨n119, rfl⟩), fun S => (ordK_w S _ _ _ _).trans (mK_w S _ _).symm⟩
        · rw [if_neg s2] at h1; cases h1
    · rw [if_neg hw] at h1 h2 hle ⊢
      by_cases hl : co p = 108
      · rw [if_pos hl] at h1 h2 hle ⊢
        rw [if_pos hl]
        have key : ∀ sg : Int32, isN co n (p + 2) 48 51 = true → (p + 3 = n ∨ co (p + 3) = 59) → numF co n 2 (p + 2) 0 = (co (p + 2) - 48, p + 3) ∧ ∃ d, d ≤ 3 ∧ co (p + 2) - 48 = nI d := by
          intro sg hr hz
          obtain ⟨b1, b2⟩ := isN_t hr
          obtain ⟨d, hd, e5, e6⟩ := run_nI b2
          refine ⟨num1 b1 ?_ (fun z => ?_), d, hd, e6⟩
          · rw [e5]
            have : ∀ d, d < 4 → digX (nI (48 + d)) = true := by decide +kernel
            exact this d (by omega)
          · rcases hz with hz | hz
            · omega
            · show digX (co (p + 3)) = false
              rw [hz]; decide
        by_cases s1 : isN co n (p + 1) 43 43 = true
        · rw [if_pos s1] at h1 h2 hle ⊢
          obtain ⟨a1, a2⟩ := isN_t s1
          by_cases hr : isN co n (p + 2) 48 51 = true
          · rw [if_pos hr] at h1 h2 hle ⊢
            obtain ⟨e1, d, hd, e2⟩ := key 1 hr h2
            rw [at60 (show p + 1 < 60 by omega), if_pos (inX_1.mp a2), e1]
            exact ⟨rfl, Or.inr (Or.inr ⟨n108, n108w, d, hd, e2⟩), fun S => (ordK_l S _ _ _ _).trans (mK_l S _ _).symm⟩
          · rw [if_neg hr] at h1; cases h1
        · rw [if_neg s1] at h1 h2 hle ⊢
          by_cases s2 : isN co n (p + 1) 45 45 = true
          · rw [if_pos s2] at h1 h2 hle ⊢
            obtain ⟨a1, a2⟩ := isN_t s2
            by_cases hr : isN co n (p + 2) 48 51 = true
            · rw [if_pos hr] at h1 h2 hle ⊢
              obtain ⟨e1, d, hd, e2⟩ := key (-1) hr h2
              rw [at60 (show p + 1 < 60 by omega), if_neg (by rw [inX_1.mp a2]; decide), e1]
              exact ⟨rfl, Or.inr (Or.inr ⟨n108, n108w, d, hd, e2⟩), fun S => (ordK_l S _ _ _ _).trans (mK_l S _ _).symm⟩
            · rw [if_neg hr] at h1; cases h1
          · rw [if_neg s2] at h1; cases h1
      · rw [if_neg hl] at h1; cases h1
