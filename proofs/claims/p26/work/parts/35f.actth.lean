/-! arcs; ledges that only a running leap comes to; what the acts do -/
def rsF (a f t : Nat) : Int32 := if t ≤ a + f then nI a - nI t else -(nI f)
theorem arc_step : ∀ a, a < 5 → ∀ f, f < 6 → 1 ≤ f → ∀ t, t < 31 → haoF (nI (t + 1)) (nI a) (nI f) = haoF (nI t) (nI a) (nI f) + rsF a f t ∧ (if -(nI f) < rsF a f t then rsF a f t - 1 else rsF a f t) = rsF a f (t + 1) := by decide +kernel
theorem arc_0 : ∀ a, a < 5 → ∀ f, f < 6 → haoF (nI 0) (nI a) (nI f) = 0 ∧ rsF a f 0 = nI a := by decide +kernel
theorem cntB_mono {p : Nat → Bool} {i j : Nat} (h : i ≤ j) : cntB p i ≤ cntB p j := by
  induction j with
  | zero => rw [Nat.le_zero.mp h]; exact Nat.le_refl _
  | succ j ih =>
    rcases Nat.lt_or_ge i (j + 1) with q | q
    · rw [cntB_s]; have := ih (by omega); omega
    · rw [show i = j + 1 by omega]; exact Nat.le_refl _
theorem only_hit {p : Nat → Bool} {k n : Nat} (hk : k < n) (hn : n ≤ 1000) (hp : p k = true) : onlyF p (nI (cntB p k)) n 0 0 = nI k := by
  have key : ∀ m i, i ≤ k → k < i + m → onlyF p (nI (cntB p k)) m i (cntB p i) = nI k := by
    intro m
    induction m with
    | zero => intro i h1 h2; omega
    | succ m ih =>
      intro i h1 h2
      rw [onlyF]
      by_cases q : p i = true
      · rw [if_pos q]
        by_cases z : i = k
        · subst z; rw [if_pos rfl]
        · have h3 := cntB_mono (p := p) (show i + 1 ≤ k by omega)
          have h4 := cntB_le p k
          rw [cntB_t q] at h3
          rw [if_neg (fun e => by have := nI_inj (by omega) (by omega) e; omega), ← cntB_t q]
          exact ih (i + 1) (by omega) (by omega)
      · rw [if_neg q, ← cntB_f (not_t q)]
        have : ¬ i = k := fun e => q (e ▸ hp)
        exact ih (i + 1) (by omega) (by omega)
  exact key n 0 (Nat.zero_le _) (by omega)
theorem only_end {p : Nat → Bool} {n : Nat} (hn : n ≤ 1000) : onlyF p (nI (cntB p n)) n 0 0 = -1 := by
  have key : ∀ m i, i + m = n → onlyF p (nI (cntB p n)) m i (cntB p i) = -1 := by
    intro m
    induction m with
    | zero => intro i _; rfl
    | succ m ih =>
      intro i h
      rw [onlyF]
      by_cases q : p i = true
      · have h3 := cntB_mono (p := p) (show i + 1 ≤ n by omega)
        have h4 := cntB_le p n
        rw [cntB_t q] at h3
        rw [if_pos q, if_neg (fun e => by have := nI_inj (by omega) (by omega) e; omega), ← cntB_t q]
        exact ih (i + 1) (by omega)
      · rw [if_neg q, ← cntB_f (not_t q)]
        exact ih (i + 1) (by omega)
  exact key n 0 (by omega)
theorem cntB_neg (p : Nat → Bool) : ∀ n, cntB p n + cntB (fun i => !p i) n = n := by
  intro n
  induction n with
  | zero => rfl
  | succ n ih =>
    rw [cntB_s, cntB_s]
    cases p n <;> simp <;> omega
noncomputable def pOn (S : KS) (b : Nat) : Bool := rcS S 3 b && !rcS S 0 b
theorem only_hitS {S : KS} {k : Nat} (hk : k < nS S) (h : pOn S k = true) : onlyS S (nI (cntB (pOn S) k)) = nI k :=
  only_hit (p := pOn S) hk (by have : nS S ≤ 100 := nL_le _; omega) h
theorem only_endS {S : KS} : onlyS S (nI (cntB (pOn S) (nS S))) = -1 :=
  only_end (p := pOn S) (by have : nS S ≤ 100 := nL_le _; omega)
theorem rc_spec {S : KS} {k b : Nat} (ho : owS S < nS S) (hb : b < nS S) : (rcS S k b = false ∧ dS S k (owS S) b = -1) ∨ ∃ m, m < 100 ∧ rcS S k b = true ∧ dS S k (owS S) b = nI m := by
  have hn : nS S ≤ 100 := nL_le _
  rcases d_spec (k := k) ho hb with ⟨h1, -⟩ | ⟨m, h1, h2, -⟩
  · refine Or.inl ⟨?_, h1⟩
    unfold rcS
    rw [h1]; rfl
  · refine Or.inr ⟨m, by omega, ?_, h2⟩
    unfold rcS
    rw [h2, decide_eq_false (nI_ne_m1 (by omega))]; rfl
theorem count_8 (S : KS) : countS S 0 8 = nI (cntB (fun b => !rcS S 3 b) (nS S)) := by
  have h := cntB_neg (rcS S 3) (nS S)
  show nI (nS S) - nI (cntB (rcS S 3) (nS S)) = _
  rw [pk_sub (by omega)]
  refine congrArg nI ?_
  omega
theorem share_c : ∀ b, b < 101 → 1 ≤ b → ∀ a, a < 101 → Op.cmpValue (FP.dcmp (FP.ddiv (FP.i2d (nI a)) (FP.i2d (nI b))) (FP.ddiv (FP.i2d (nI a)) (FP.i2d (nI b)))) .l = 0 := by decide +kernel
theorem sub_away (S : KS) : nI (nS S) - nI (cntB (fun b => !rcS S 3 b) (nS S)) = nI (cntB (rcS S 3) (nS S)) := by
  have h := cntB_neg (rcS S 3) (nS S)
  rw [pk_sub (by omega)]
  refine congrArg nI ?_
  omega
/-! building and breaking -/
theorem flip2 (L : Nat → Nat → Bool) (c r : Nat) : flipL (flipL L c r) c r = L := by
  funext i j
  unfold flipL
  by_cases h : i = c ∧ j = r
  · rw [if_pos h, if_pos h, Bool.not_not]
  · rw [if_neg h, if_neg h]
theorem flip_col {L : Nat → Nat → Bool} {c r x : Nat} (hx : x < 20) (h : x ≠ c) (y : Int32) : Bk (flipL L c r) (nI x) y = Bk L (nI x) y := by
  unfold Bk
  rw [nI_clamp (by omega)]
  unfold flipL
  rw [if_neg (show ¬ (x = c ∧ y.toNatClampNeg = r) from fun q => h q.1)]
theorem flip_st {L : Nat → Nat → Bool} {c r x : Nat} (hx : x < 20) (h : x ≠ c) (y : Int32) : stB (Bk (flipL L c r)) (nI x) y = stB (Bk L) (nI x) y := by
  unfold stB
  rw [flip_col hx h, flip_col hx h]
theorem flip_at {L : Nat → Nat → Bool} {c r : Nat} (hc : c < 20) (hr : r < 10) : Bk (flipL L c r) (nI c) (nI r) = !L c r := by
  rw [Bk_in _ hc hr]
  unfold flipL
  rw [if_pos ⟨rfl, rfl⟩]
theorem cell_0b {S : KS} {c r : Nat} (hc : c < 20) (hr : r < 10) : cellS S c r 0 = bI (S.1 c r) := by
  show bI (Bk S.1 (nI c) (nI r)) = _
  rw [Bk_in _ hc hr]
theorem build_own {S : KS} (hW : Wf S) : buildK S S.2.2.1.1 S.2.2.1.2 = (refK S, -1) ∧ cellS (refK S) S.2.2.1.1 S.2.2.1.2 0 = 0 := by
  refine ⟨?_, ?_⟩
  · unfold buildK
    rw [if_pos ⟨rfl, rfl⟩]
  · show bI (Bk S.1 _ _) = 0
    rw [hW.free]; rfl
theorem build_else {S : KS} (hW : Wf S) {c r : Nat} (hc : c < 20) (hr : r < 10) (hne : ¬ (c = S.2.2.1.1 ∧ r = S.2.2.1.2)) :
    ∃ j, j ≤ S.2.2.1.2 ∧ (c ≠ S.2.2.1.1 → j = S.2.2.1.2) ∧ buildK S c r = ((flipL S.1 c r, S.2.1, (S.2.2.1.1, j), S.2.2.2), bI (!S.1 c r)) ∧ cellS S c r 0 = bI (S.1 c r) ∧ cellS (flipL S.1 c r, S.2.1, (S.2.2.1.1, j), S.2.2.2) c r 0 = bI (!S.1 c r) := by
  have hf := hW.free
  have h1 := hW.2.1
  have h2 := hW.2.2.1
  obtain ⟨j, e, hj, -⟩ := fall_spec (Bk_OutB (flipL S.1 c r)) 10 S.2.2.1.2 h2 (by
    rw [Bk_in _ h1 h2] at hf ⊢
    unfold flipL
    rw [if_neg (fun q => hne ⟨q.1.symm, q.2.symm⟩)]; exact hf) h2
  refine ⟨j, hj, fun q => ?_, ?_, cell_0b hc hr, ?_⟩
  · rw [fallB, if_pos (by rw [flip_st h1 (fun z => q z.symm)]; exact hW.2.2.2)] at e
    exact (nI_inj (by omega) (by omega) e).symm
  · unfold buildK
    rw [if_neg hne, e, nI_clamp (by omega), flip_at hc hr]
  · show bI (Bk (flipL S.1 c r) _ _) = _
    rw [flip_at hc hr]
/-- built and broken again: the level is as it was -/
theorem build_back {S : KS} (hW : Wf S) {c r : Nat} (hc : c < 20) (hr : r < 10) (hne : c ≠ S.2.2.1.1) : buildK (flipL S.1 c r, S.2.1, (S.2.2.1.1, S.2.2.1.2), S.2.2.2) c r = (S, bI (S.1 c r)) := by
  unfold buildK
  rw [if_neg (fun q => hne q.1)]
  have e : fallB (Bk (flipL (flipL S.1 c r) c r)) (nI S.2.2.1.1) 10 (nI S.2.2.1.2) = nI S.2.2.1.2 := by
    rw [flip2, fallB, if_pos hW.2.2.2]
  show ((flipL (flipL S.1 c r) c r, S.2.1, (S.2.2.1.1, (fallB (Bk (flipL (flipL S.1 c r) c r)) (nI S.2.2.1.1) 10 (nI S.2.2.1.2)).toNatClampNeg), S.2.2.2), bI (Bk (flipL (flipL S.1 c r) c r) (nI c) (nI r))) = _
  rw [e, flip2, nI_clamp (by have := hW.2.2.1; omega), Bk_in _ hc hr]
theorem not_1 (b : Bool) : bI (!b) = 1 - bI b := by cases b <;> decide
/-! walking -/
theorem walk_ok {S : KS} {d : Int32} {x : Nat} (h : nI S.2.2.1.1 + d = nI x) (hx : x < 20) (hs : stB (Bk S.1) (nI x) (nI S.2.2.1.2) = true) : walkK S d = ((S.1, S.2.1, (x, S.2.2.1.2), S.2.2.2), nI x) := by
  unfold walkK
  rw [h, if_pos hs, nI_clamp (by omega)]
theorem walk_no {S : KS} {d : Int32} (hs : stB (Bk S.1) (nI S.2.2.1.1 + d) (nI S.2.2.1.2) = false) : walkK S d = (refK S, -1) := by
  unfold walkK
  rw [if_neg (by rw [hs]; decide)]
theorem own_near {S : KS} (hW : Wf S) {x : Nat} (hx : x < 20) (h : x = S.2.2.1.1 + 1 ∨ S.2.2.1.1 = x + 1) (hs : stB (Bk S.1) (nI x) (nI S.2.2.1.2) = true) : owS (S.1, S.2.1, (x, S.2.2.1.2), S.2.2.2) = owS S := by
  show lgN (SB (Bk S.1)) (20 * S.2.2.1.2 + x) = lgN (SB (Bk S.1)) (20 * S.2.2.1.2 + S.2.2.1.1)
  have h1 := hW.2.1
  have a1 : SB (Bk S.1) (20 * S.2.2.1.2 + x) = true := by rw [SB_rc hx]; exact hs
  have a2 : SB (Bk S.1) (20 * S.2.2.1.2 + S.2.2.1.1) = true := by rw [SB_rc h1]; exact hW.2.2.2
  rcases h with h | h
  · rw [lg_next (i := 20 * S.2.2.1.2 + x) (by omega) a1 (by rw [show 20 * S.2.2.1.2 + x - 1 = 20 * S.2.2.1.2 + S.2.2.1.1 by omega]; exact a2), show 20 * S.2.2.1.2 + x - 1 = 20 * S.2.2.1.2 + S.2.2.1.1 by omega]
  · rw [lg_next (i := 20 * S.2.2.1.2 + S.2.2.1.1) (by omega) a2 (by rw [show 20 * S.2.2.1.2 + S.2.2.1.1 - 1 = 20 * S.2.2.1.2 + x by omega]; exact a1), show 20 * S.2.2.1.2 + S.2.2.1.1 - 1 = 20 * S.2.2.1.2 + x by omega]
/-- the runner's road to a side: the next cell, out of the level or in it -/
theorem side_sp {a : Nat} (ha : a < 20) {d : Int32} (hd : d = 1 ∨ d = -1) : (∃ x, x < 20 ∧ nI a + d = nI x ∧ (x = a + 1 ∨ a = x + 1)) ∨ (nI a + d = -1 ∧ nI a + d < 0) ∨ (nI a + d = 20 ∧ ¬ nI a + d < 0) := by
  rcases hd with rfl | rfl
  · rcases Nat.lt_or_ge (a + 1) 20 with q | q
    · exact Or.inl ⟨a + 1, q, nI_1 a, Or.inl rfl⟩
    · obtain rfl : a = 19 := by omega
      exact Or.inr (Or.inr ⟨by decide, by decide⟩)
  · rcases Nat.eq_zero_or_pos a with q | q
    · subst q
      exact Or.inr (Or.inl ⟨by decide, by decide⟩)
    · refine Or.inl ⟨a - 1, by omega, ?_, Or.inr (by omega)⟩
      rw [show a = a - 1 + 1 by omega, pk_m1]; rfl
theorem st_out {L : Nat → Nat → Bool} {x y : Int32} (h : x < 0 ∨ 20 ≤ x) : stB (Bk L) x y = false := by
  unfold stB Bk
  rcases h with h | h
  · rw [if_pos h]; rfl
  · by_cases q : x < 0
    · rw [if_pos q]; rfl
    · rw [if_neg q, if_pos h]; rfl
/-! the runner's count of leaps and of walls met -/
def LW (m : Nat) (S : KS) : Prop := ∃ a b : Nat, S.2.2.2.1 = nI a ∧ S.2.2.2.2.1 = nI b ∧ b ≤ a ∧ a ≤ m
theorem LW.up {m m' : Nat} {S : KS} (h : LW m S) (hm : m ≤ m') : LW m' S := by
  obtain ⟨a, b, h1, h2, h3, h4⟩ := h
  exact ⟨a, b, h1, h2, h3, by omega⟩
theorem LW.build {m : Nat} {S : KS} (h : LW m S) (c r : Nat) : LW m (buildK S c r).1 := by
  unfold buildK
  split <;> exact h
theorem LW.walk {m : Nat} {S : KS} (h : LW m S) (d : Int32) : LW m (walkK S d).1 := by
  unfold walkK
  split <;> exact h
theorem LW.put {m : Nat} {S : KS} (h : LW m S) (c r : Nat) : LW m (putK S c r).1 := by
  unfold putK
  split <;> exact h
theorem LW.set {m : Nat} {S : KS} (h : LW m S) {k : Nat} (hk : k < 3) (v : Int32) : LW m (putSet S k v) := by
  rcases (show k = 0 ∨ k = 1 ∨ k = 2 by omega) with rfl | rfl | rfl <;> exact h
theorem LW.leap {m : Nat} {S : KS} (h : LW m S) (d : Int32) (u : Nat) : LW (m + 1) (leapK S d u).1 := by
  unfold leapK
  split
  · exact h.up (by omega)
  · obtain ⟨a, b, h1, h2, h3, h4⟩ := h
    by_cases q : (leapR S d u).2.2.2.2.1 = true
    · exact ⟨a + 1, b + 1, by show S.2.2.2.1 + 1 = _; rw [h1, nI_1], by show (if _ then _ else _) = _; rw [if_pos q, h2, nI_1], by omega, by omega⟩
    · exact ⟨a + 1, b, by show S.2.2.2.1 + 1 = _; rw [h1, nI_1], by show (if _ then _ else _) = _; rw [if_neg q, h2], by omega, by omega⟩
theorem set_put {S : KS} {k : Nat} (hk : k < 3) (v : Int32) : setS (putSet S k v) k = v := by
  rcases (show k = 0 ∨ k = 1 ∨ k = 2 by omega) with rfl | rfl | rfl <;> rfl
theorem leapK_no {S : KS} {d : Int32} {u : Nat} (h : grB (Bk S.1) (nI S.2.2.1.1) (nI S.2.2.1.2) d < nI u) : leapK S d u = (refK S, -1) := by
  unfold leapK
  rw [if_pos h]
theorem leapK_ok {S : KS} {d : Int32} {u c j : Nat} {w : Bool} (h : ¬ grB (Bk S.1) (nI S.2.2.1.1) (nI S.2.2.1.2) d < nI u) (hc : c < 20) (hj : j < 10) (e1 : leapS S S.2.2.1.1 S.2.2.1.2 d u 0 = nI c) (e2 : leapS S S.2.2.1.1 S.2.2.1.2 d u 1 = nI j) (e3 : leapS S S.2.2.1.1 S.2.2.1.2 d u 4 = bI w) :
    leapK S d u = ((S.1, S.2.1, (c, j), S.2.2.2.1 + 1, S.2.2.2.2.1 + bI w, S.2.2.2.2.2), nI (100 * j + c)) := by
  have hl : ∀ k, leapS S S.2.2.1.1 S.2.2.1.2 d u k = leapF (leapR S d u) k := fun k => by
    unfold leapS
    rw [if_neg h]; rfl
  have e1 : (leapR S d u).1 = nI c := (hl 0).symm.trans e1
  have e2 : (leapR S d u).2.1 = nI j := (hl 1).symm.trans e2
  have e3 : bI (leapR S d u).2.2.2.2.1 = bI w := (hl 4).symm.trans e3
  unfold leapK
  rw [if_neg h, e1, e2, nI_clamp (by omega), nI_clamp (by omega)]
  have e4 : (if (leapR S d u).2.2.2.2.1 = true then S.2.2.2.2.1 + 1 else S.2.2.2.2.1) = S.2.2.2.2.1 + bI w := by
    rw [← e3]
    cases (leapR S d u).2.2.2.2.1
    · rw [if_neg Bool.false_ne_true]
      show _ = S.2.2.2.2.1 + 0
      rw [Int32.add_zero]
    · rw [if_pos rfl]; rfl
  have e5 : (100 : Int32) * nI j + nI c = nI (100 * j + c) := by
    rw [show (100 : Int32) = nI 100 from rfl, pk_mul, nI_add]
  rw [e4, e5]
