/-! the reference's acts, hash and texts -/
theorem fall_step {B : Int32 → Int32 → Bool} (hB : OutB B) {c : Int32} {j n : Nat} (hj : j < 10) (hn : j < n) (h : B c (nI j) = false) (hs : stB B c (nI j) = false) : ∃ m, n = m + 1 ∧ 1 ≤ j ∧ nI j - 1 = nI (j - 1) ∧ B c (nI (j - 1)) = false ∧ fallB B c n (nI j) = fallB B c m (nI (j - 1)) := by
  cases n with
  | zero => exact absurd hn (Nat.not_lt_zero _)
  | succ m =>
    have hb : B c (nI j - 1) = false := by
      cases hh : B c (nI j - 1) with
      | false => rfl
      | true => unfold stB at hs; rw [h, hh] at hs; cases hs
    obtain ⟨h1, h2⟩ := row_down hB hj hb
    refine ⟨m, rfl, h1, h2, by rw [← h2]; exact hb, ?_⟩
    rw [fallB, if_neg (by rw [hs]; decide), h2]
theorem fall_stop {B : Int32 → Int32 → Bool} {c : Int32} {j n : Nat} (hn : j < n) (hs : stB B c (nI j) = true) : fallB B c n (nI j) = nI j := by
  cases n with
  | zero => exact absurd hn (Nat.not_lt_zero _)
  | succ m => rw [fallB, if_pos hs]
theorem build_no {S : KS} {c r : Nat} (h : c = S.2.2.1.1 ∧ r = S.2.2.1.2) : buildK S c r = (refK S, -1) := by unfold buildK; rw [if_pos h]
theorem build_do {S : KS} {c r j : Nat} (h : ¬ (c = S.2.2.1.1 ∧ r = S.2.2.1.2)) (hj : j < 10) (e : fallB (Bk (flipL S.1 c r)) (nI S.2.2.1.1) 10 (nI S.2.2.1.2) = nI j) : buildK S c r = ((flipL S.1 c r, S.2.1, (S.2.2.1.1, j), S.2.2.2), bI (Bk (flipL S.1 c r) (nI c) (nI r))) := by
  unfold buildK
  rw [if_neg h, e, nI_clamp (by omega)]
theorem walk_no {S : KS} {d : Int32} (h : stB (Bk S.1) (nI S.2.2.1.1 + d) (nI S.2.2.1.2) = false) : walkK S d = (refK S, -1) := by unfold walkK; rw [if_neg (by rw [h]; decide)]
theorem walk_do {S : KS} {d : Int32} {c : Nat} (hc : c < 20) (e : nI S.2.2.1.1 + d = nI c) (h : stB (Bk S.1) (nI S.2.2.1.1 + d) (nI S.2.2.1.2) = true) : walkK S d = ((S.1, S.2.1, (c, S.2.2.1.2), S.2.2.2), nI S.2.2.1.1 + d) := by
  unfold walkK
  rw [if_pos h, e, nI_clamp (by omega)]
theorem leap_no {S : KS} {d : Int32} {k : Nat} (h : grB (Bk S.1) (nI S.2.2.1.1) (nI S.2.2.1.2) d < nI k) : leapK S d k = (refK S, -1) := by unfold leapK; rw [if_pos h]
theorem leap_do {S : KS} {d : Int32} {k c r : Nat} (h : ¬ grB (Bk S.1) (nI S.2.2.1.1) (nI S.2.2.1.2) d < nI k) (hc : c < 20) (hr : r < 10) (e1 : (leapR S d k).1 = nI c) (e2 : (leapR S d k).2.1 = nI r) : leapK S d k = ((S.1, S.2.1, (c, r), S.2.2.2.1 + 1, (if (leapR S d k).2.2.2.2.1 = true then S.2.2.2.2.1 + 1 else S.2.2.2.2.1), S.2.2.2.2.2), 100 * (leapR S d k).2.1 + (leapR S d k).1) := by
  unfold leapK
  rw [if_neg h, e1, e2, nI_clamp (by omega), nI_clamp (by omega)]
/-! the hash, told flat and nested -/
theorem leaps_flat (F : Int32 → Nat → Nat → Int64) (x : Int64) : hL (fun q => F (if q < 10 then 1 else -1) (q / 5 % 2) (q % 5)) 20 x = hI (fun (i : Nat) h => hI (fun u h => hL (fun k => F (if i = 0 then 1 else -1) u k) 5 h) 2 h) 2 x := by
  have e : ∀ (i : Nat) (h : Int64), i < 2 → hI (fun u h => hL (fun k => F (if i = 0 then 1 else -1) u k) 5 h) 2 h = hI (fun q h => mxL h (F (if 10 * i + q < 10 then 1 else -1) ((10 * i + q) / 5 % 2) ((10 * i + q) % 5))) 10 h := by
    intro i h hi
    rw [← hI_flat (g := fun q h => mxL h (F (if 10 * i + q < 10 then 1 else -1) ((10 * i + q) / 5 % 2) ((10 * i + q) % 5))) (m := 5) (by decide) 2 h]
    refine hI_cong fun u h hu => ?_
    show hI _ 5 h = _
    refine hI_cong fun k h hk => ?_
    show mxL h (F _ u k) = mxL h (F (if 10 * i + (5 * u + k) < 10 then 1 else -1) ((10 * i + (5 * u + k)) / 5 % 2) ((10 * i + (5 * u + k)) % 5))
    rw [show (10 * i + (5 * u + k)) / 5 % 2 = u by omega, show (10 * i + (5 * u + k)) % 5 = k by omega]
    congr 2
    by_cases z : i = 0
    · rw [if_pos z, if_pos (by omega)]
    · rw [if_neg z, if_neg (by omega)]
  rw [hI_cong e]
  exact (hI_flat (g := fun q h => mxL h (F (if q < 10 then 1 else -1) (q / 5 % 2) (q % 5))) (m := 10) (by decide) 2 x).symm
theorem cells_flat (F : Nat → Nat → Nat → Int64) (x : Int64) : hL (fun q => F (q / 3 % 20) (q / 3 / 20) (q % 3)) 600 x = hI (fun j h => hI (fun i h => hL (fun k => F i j k) 3 h) 20 h) 10 x := by
  have e : ∀ (j : Nat) (h : Int64), j < 10 → hI (fun i h => hL (fun k => F i j k) 3 h) 20 h = hI (fun i h => (fun p h => hI (fun k h => (fun q h => mxL h (F (q / 3 % 20) (q / 3 / 20) (q % 3))) (3 * p + k) h) 3 h) (20 * j + i) h) 20 h := by
    intro j h hj
    refine hI_cong fun i h hi => ?_
    show hI _ 3 h = _
    refine hI_cong fun k h hk => ?_
    show mxL h (F i j k) = mxL h (F ((3 * (20 * j + i) + k) / 3 % 20) ((3 * (20 * j + i) + k) / 3 / 20) ((3 * (20 * j + i) + k) % 3))
    rw [show (3 * (20 * j + i) + k) / 3 % 20 = i by omega, show (3 * (20 * j + i) + k) / 3 / 20 = j by omega, show (3 * (20 * j + i) + k) % 3 = k by omega]
  rw [hI_cong e, hI_flat (g := fun p h => hI (fun k h => (fun q h => mxL h (F (q / 3 % 20) (q / 3 / 20) (q % 3))) (3 * p + k) h) 3 h) (m := 20) (by decide) 10 x]
  exact (hI_flat (g := fun q h => mxL h (F (q / 3 % 20) (q / 3 / 20) (q % 3))) (m := 3) (by decide) 200 x).symm
/-! reading -/
theorem mKo_b {S : KS} {l o t : Int32} {i j : Nat} (h : l = 98) (hi : i < 20) (hj : j < 10) (e1 : o = nI i) (e2 : t = nI j) : mK S (l, o, t) = buildK S i j := by
  unfold mK
  rw [if_pos h]
  show buildK S o.toNatClampNeg t.toNatClampNeg = _
  rw [e1, e2, nI_clamp (by omega), nI_clamp (by omega)]
theorem mKo_w {S : KS} {l o t : Int32} (h : ¬ l = 98) (h2 : l = 119) : mK S (l, o, t) = walkK S o := by
  unfold mK
  rw [if_neg h, if_pos h2]
theorem mKo_l {S : KS} {l o t : Int32} {k : Nat} (h : ¬ l = 98) (h2 : ¬ l = 119) (hk : k ≤ 3) (e : t = nI k) : mK S (l, o, t) = leapK S o k := by
  unfold mK
  rw [if_neg h, if_neg h2]
  show leapK S o t.toNatClampNeg = _
  rw [e, nI_clamp (by omega)]
def sdN (co : Nat → Int32) (n p : Nat) : Int32 × Nat := if isN co n p 43 43 = true then (1, p + 1) else if isN co n p 45 45 = true then (-1, p + 1) else (0, p)
theorem col_nI {co : Nat → Int32} {n p : Nat} (h : (mCol co n p).1 = true) : ∃ i, i < 20 ∧ (mCol co n p).2.1 = nI i := by
  unfold mCol at h ⊢
  by_cases q : isN co n p 48 57 = true
  · rw [if_pos q] at h ⊢
    by_cases z : co p - 48 = 1 ∧ isN co n (p + 1) 48 57 = true
    · rw [if_pos z]
      obtain ⟨d, hd, -, -, e⟩ := dig_nI (isN_t z.2).2
      exact ⟨10 + d, by omega, e⟩
    · rw [if_neg z]
      obtain ⟨d, hd, -, e, -⟩ := dig_nI (isN_t q).2
      exact ⟨d, by omega, e⟩
  · rw [if_neg q] at h; cases h
theorem col_no {co : Nat → Int32} {n p : Nat} (h : (mCol co n p).1 = false) : (mCol co n p).2.2 = p := by
  unfold mCol at h ⊢
  by_cases q : isN co n p 48 57 = true
  · rw [if_pos q] at h ⊢
    by_cases z : co p - 48 = 1 ∧ isN co n (p + 1) 48 57 = true
    · rw [if_pos z] at h; cases h
    · rw [if_neg z] at h; cases h
  · rw [if_neg q]
theorem col_le {co : Nat → Int32} {n p : Nat} (h : p ≤ n) : p ≤ (mCol co n p).2.2 ∧ (mCol co n p).2.2 ≤ n := by
  unfold mCol
  by_cases q : isN co n p 48 57 = true
  · rw [if_pos q]
    have q1 := (isN_t q).1
    by_cases z : co p - 48 = 1 ∧ isN co n (p + 1) 48 57 = true
    · rw [if_pos z]
      have z1 := (isN_t z.2).1
      exact ⟨by show p ≤ p + 2; omega, by show p + 2 ≤ n; omega⟩
    · rw [if_neg z]
      exact ⟨by show p ≤ p + 1; omega, by show p + 1 ≤ n; omega⟩
  · rw [if_neg q]; exact ⟨Nat.le_refl _, h⟩
/-- what the reference has read -/
def RdM (co : Nat → Int32) (n p : Nat) (ok : Bool) (l o t : Int32) (q : Nat) : Prop := ok = (mOrd co n p).1 ∧ q = (mOrd co n p).2.2 ∧ ((mOrd co n p).1 = true → OrdOK l o t o t ∧ ∀ S, mK S (l, o, t) = mK S (mOrd co n p).2.1)
theorem RdM.none {co : Nat → Int32} {n p : Nat} {l o t : Int32} (h : n ≤ p) : RdM co n p false l o t p := by
  have e : mOrd co n p = (false, (0, 0, 0), p) := by unfold mOrd; rw [if_pos (by omega)]
  unfold RdM
  rw [e]
  exact ⟨rfl, rfl, fun q => by cases q⟩
theorem RdM.other {co : Nat → Int32} {n p : Nat} {l o t : Int32} (h : ¬ n ≤ p) (h1 : ¬ co p = 98) (h2 : ¬ co p = 119) (h3 : ¬ co p = 108) : RdM co n p false l o t p := by
  have e : mOrd co n p = (false, (0, 0, 0), p) := by unfold mOrd; rw [if_neg (by omega), if_neg h1, if_neg h2, if_neg h3]
  unfold RdM
  rw [e]
  exact ⟨rfl, rfl, fun q => by cases q⟩
theorem RdM.build {co : Nat → Int32} {n p : Nat} {o t : Int32} {q : Nat} {ok : Bool} (h : ¬ n ≤ p) (h1 : co p = 98)
    (hc : ((mCol co n (p + 1)).1 = false ∧ ok = false ∧ q = (mCol co n (p + 1)).2.2) ∨ ((mCol co n (p + 1)).1 = true ∧ isN co n (mCol co n (p + 1)).2.2 44 44 = false ∧ ok = false ∧ q = (mCol co n (p + 1)).2.2) ∨
      ((mCol co n (p + 1)).1 = true ∧ isN co n (mCol co n (p + 1)).2.2 44 44 = true ∧ isN co n ((mCol co n (p + 1)).2.2 + 1) 48 57 = false ∧ ok = false ∧ q = (mCol co n (p + 1)).2.2 + 1) ∨
      ((mCol co n (p + 1)).1 = true ∧ isN co n (mCol co n (p + 1)).2.2 44 44 = true ∧ isN co n ((mCol co n (p + 1)).2.2 + 1) 48 57 = true ∧ ok = true ∧ q = (mCol co n (p + 1)).2.2 + 2 ∧ o = (mCol co n (p + 1)).2.1 ∧ t = co ((mCol co n (p + 1)).2.2 + 1) - 48)) : RdM co n p ok 98 o t q := by
  unfold RdM mOrd
  rw [if_neg (by omega), if_pos h1]
  rcases hc with ⟨c1, rfl, rfl⟩ | ⟨c1, c2, rfl, rfl⟩ | ⟨c1, c2, c3, rfl, rfl⟩ | ⟨c1, c2, c3, rfl, rfl, rfl, rfl⟩
  · rw [if_neg (by rw [c1]; decide), col_no c1]; exact ⟨rfl, rfl, fun q => by cases q⟩
  · rw [if_pos c1, if_neg (by rw [c2]; decide)]; exact ⟨rfl, rfl, fun q => by cases q⟩
  · rw [if_pos c1, if_pos c2, if_neg (by rw [c3]; decide)]; exact ⟨rfl, rfl, fun q => by cases q⟩
  · rw [if_pos c1, if_pos c2, if_pos c3]
    refine ⟨rfl, rfl, fun _ => ⟨Or.inl ⟨rfl, ?_⟩, fun _ => rfl⟩⟩
    obtain ⟨i, hi, ei⟩ := col_nI c1
    obtain ⟨d, hd, -, ed, -⟩ := dig_nI (isN_t c3).2
    exact ⟨i, d, hi, hd, ei, ed⟩
theorem RdM.walk {co : Nat → Int32} {n p : Nat} {o t : Int32} {q : Nat} {ok : Bool} (h : ¬ n ≤ p) (h1 : co p = 119) (ho : o = (sdN co n (p + 1)).1) (hq : q = (sdN co n (p + 1)).2) (hk : ok = !decide (o = 0)) : RdM co n p ok 119 o t q := by
  unfold RdM mOrd
  rw [if_neg (by omega), if_neg (by rw [h1]; decide), if_pos h1]
  unfold sdN at ho hq
  by_cases c1 : isN co n (p + 1) 43 43 = true
  · rw [if_pos c1] at ho hq ⊢
    have ho : o = 1 := ho
    have hk : ok = true := by rw [hk, ho]; decide
    rw [ho, hk, hq]
    exact ⟨rfl, rfl, fun _ => ⟨Or.inr (Or.inl ⟨by decide, rfl⟩), fun S => (mKo_w (by decide) rfl).trans (mKo_w (by decide) rfl).symm⟩⟩
  · rw [if_neg c1] at ho hq ⊢
    by_cases c2 : isN co n (p + 1) 45 45 = true
    · rw [if_pos c2] at ho hq ⊢
      have ho : o = -1 := ho
      have hk : ok = true := by rw [hk, ho]; decide
      rw [ho, hk, hq]
      exact ⟨rfl, rfl, fun _ => ⟨Or.inr (Or.inl ⟨by decide, rfl⟩), fun S => (mKo_w (by decide) rfl).trans (mKo_w (by decide) rfl).symm⟩⟩
    · rw [if_neg c2] at ho hq ⊢
      have ho : o = 0 := ho
      have hk : ok = false := by rw [hk, ho]; decide
      rw [ho, hk, hq]
      exact ⟨rfl, rfl, fun q => by cases q⟩
theorem RdM.leap {co : Nat → Int32} {n p : Nat} {o t : Int32} {q : Nat} {ok : Bool} (h : ¬ n ≤ p) (h1 : co p = 108) (ho : o = (sdN co n (p + 1)).1)
    (hc : (o = 0 ∧ ok = false ∧ q = (sdN co n (p + 1)).2) ∨ (¬ o = 0 ∧ isN co n (sdN co n (p + 1)).2 48 51 = false ∧ ok = false ∧ q = (sdN co n (p + 1)).2) ∨ (¬ o = 0 ∧ isN co n (sdN co n (p + 1)).2 48 51 = true ∧ ok = true ∧ q = (sdN co n (p + 1)).2 + 1 ∧ t = co (sdN co n (p + 1)).2 - 48)) : RdM co n p ok 108 o t q := by
  unfold RdM mOrd
  rw [if_neg (by omega), if_neg (by rw [h1]; decide), if_neg (by rw [h1]; decide), if_pos h1]
  unfold sdN at ho hc
  have rn : ∀ c : Int32, inX c 48 51 = true → ∃ k : Nat, k ≤ 3 ∧ c - 48 = nI k := fun c hc => by
    obtain ⟨d, hd, -, e⟩ := run_nI hc
    exact ⟨d, hd, e⟩
  by_cases c1 : isN co n (p + 1) 43 43 = true
  · rw [if_pos c1] at ho hc ⊢
    have ho : o = 1 := ho
    subst ho
    rcases hc with ⟨z, -⟩ | ⟨-, c2, rfl, rfl⟩ | ⟨-, c2, rfl, rfl, rfl⟩
    · exact absurd z (by decide)
    · rw [if_neg (by rw [show isN co n (p + 2) 48 51 = false from c2]; decide)]; exact ⟨rfl, rfl, fun q => by cases q⟩
    · rw [if_pos (show isN co n (p + 2) 48 51 = true from c2)]
      exact ⟨rfl, rfl, fun _ => ⟨Or.inr (Or.inr ⟨by decide, by decide, rn _ (isN_t c2).2⟩), fun _ => rfl⟩⟩
  · rw [if_neg c1] at ho hc ⊢
    by_cases c2 : isN co n (p + 1) 45 45 = true
    · rw [if_pos c2] at ho hc ⊢
      have ho : o = -1 := ho
      subst ho
      rcases hc with ⟨z, -⟩ | ⟨-, c3, rfl, rfl⟩ | ⟨-, c3, rfl, rfl, rfl⟩
      · exact absurd z (by decide)
      · rw [if_neg (by rw [show isN co n (p + 2) 48 51 = false from c3]; decide)]; exact ⟨rfl, rfl, fun q => by cases q⟩
      · rw [if_pos (show isN co n (p + 2) 48 51 = true from c3)]
        exact ⟨rfl, rfl, fun _ => ⟨Or.inr (Or.inr ⟨by decide, by decide, rn _ (isN_t c3).2⟩), fun _ => rfl⟩⟩
    · rw [if_neg c2] at ho hc ⊢
      have ho : o = 0 := ho
      subst ho
      rcases hc with ⟨-, rfl, rfl⟩ | ⟨z, -⟩ | ⟨z, -⟩
      · exact ⟨rfl, rfl, fun q => by cases q⟩
      · exact absurd rfl z
      · exact absurd rfl z
theorem RdM.le {co : Nat → Int32} {n p : Nat} {l o t : Int32} {q : Nat} {ok : Bool} (h : RdM co n p ok l o t q) (hp : p ≤ n) : p ≤ q ∧ q ≤ n ∧ (ok = true → p + 2 ≤ q) := by
  obtain ⟨rfl, rfl, -⟩ := h
  have hE := @ord_E co n p hp
  exact ⟨hE.1, hE.2.1, fun q => (ord_le hp q).1⟩
/-- where the reading of a text stands -/
def TxM (co : Nat → Int32) (n : Nat) (g : Bool) (q : Nat) : Prop := (∃ p f, p ≤ n ∧ n - p < f ∧ q = (mOrd co n p).2.2 ∧ g = (mOrd co n p).1 ∧ mTxt co n f p = mTxt co n (n + 2) 0) ∨ (g = false ∧ (false, q) = mTxt co n (n + 2) 0)
theorem TxM.start {co : Nat → Int32} {n : Nat} {g : Bool} {l o t : Int32} {q : Nat} (h : RdM co n 0 g l o t q) : TxM co n g q := Or.inl ⟨0, n + 2, Nat.zero_le _, by omega, h.2.1, h.1, rfl⟩
theorem TxM.bad {co : Nat → Int32} {n q : Nat} (h : TxM co n false q) : mTxt co n (n + 2) 0 = (false, q) := by
  rcases h with ⟨p, f, hp, hf, e1, e2, e3⟩ | ⟨-, e⟩
  · rw [← e3]
    cases f with
    | zero => exact absurd hf (Nat.not_lt_zero _)
    | succ f => rw [mTxt, if_neg (by rw [← e2]; decide), e1]
  · exact e.symm
theorem TxM.all {co : Nat → Int32} {n : Nat} (h : TxM co n true n) : mTxt co n (n + 2) 0 = (true, n) := by
  rcases h with ⟨p, f, hp, hf, e1, e2, e3⟩ | ⟨e, -⟩
  · rw [← e3]
    cases f with
    | zero => exact absurd hf (Nat.not_lt_zero _)
    | succ f => rw [mTxt, if_pos e2.symm, if_pos e1.symm]
  · cases e
theorem TxM.le {co : Nat → Int32} {n q : Nat} (h : TxM co n true q) : q ≤ n := by
  rcases h with ⟨p, f, hp, hf, e1, e2, e3⟩ | ⟨e, -⟩
  · rw [e1]; exact (@ord_E co n p hp).2.1
  · cases e
theorem TxM.sep {co : Nat → Int32} {n q : Nat} (h : TxM co n true q) (hq : ¬ q = n) (hs : isN co n q 59 59 = false) : TxM co n false q := by
  have hle := h.le
  rcases h with ⟨p, f, hp, hf, e1, e2, e3⟩ | ⟨e, -⟩
  · refine Or.inr ⟨rfl, ?_⟩
    rw [← e3]
    cases f with
    | zero => exact absurd hf (Nat.not_lt_zero _)
    | succ f =>
      have h59 : ¬ co q = 59 := fun z => by
        have := isN_f (by rw [hs]; decide) (show q < n by omega)
        rw [z] at this
        exact absurd this (by decide)
      rw [mTxt, if_pos e2.symm, if_neg (by rw [← e1]; exact hq), if_neg (by rw [← e1]; exact h59), e1]
  · cases e
theorem TxM.next {co : Nat → Int32} {n q : Nat} (h : TxM co n true q) (hq : ¬ q = n) (hs : isN co n q 59 59 = true) {g : Bool} {l o t : Int32} {z : Nat} (hr : RdM co n (q + 1) g l o t z) : TxM co n g z := by
  have hle := h.le
  rcases h with ⟨p, f, hp, hf, e1, e2, e3⟩ | ⟨e, -⟩
  · cases f with
    | zero => exact absurd hf (Nat.not_lt_zero _)
    | succ f =>
      have h2 := ord_le hp e2.symm
      rw [mTxt, if_pos e2.symm, if_neg (by rw [← e1]; exact hq), if_pos (by rw [← e1]; exact inX_1.mp (isN_t hs).2), ← e1] at e3
      exact Or.inl ⟨q + 1, f, by omega, by omega, hr.2.1, hr.1, e3⟩
  · cases e
