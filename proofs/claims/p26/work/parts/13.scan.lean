/-! the scan of the cells: ledges and their numbers -/
theorem fb_holes : ∀ (m n : Nat) (f : Nat → Nat), (∀ i, i < n → f i < m) → (∀ i j, i < j → j < n → f i ≠ f j) → n ≤ m := by
  intro m
  induction m with
  | zero =>
    intro n f h1 _
    rcases Nat.eq_zero_or_pos n with h | h
    · omega
    · exact absurd (h1 0 h) (Nat.not_lt_zero _)
  | succ m ih =>
    intro n f h1 h2
    by_cases hx : ∃ i, i < n ∧ f i = m
    · obtain ⟨a, ha, hfa⟩ := hx
      have hg := ih (n - 1) (fun i => if i < a then f i else f (i + 1)) (by
        intro i hi
        by_cases q : i < a
        · simp only [if_pos q]
          have b1 := h1 i (by omega)
          have b2 := h2 i a q ha
          omega
        · simp only [if_neg q]
          have b1 := h1 (i + 1) (by omega)
          have b2 := h2 a (i + 1) (by omega) (by omega)
          omega) (by
        intro i j hij hj
        by_cases q : i < a
        · by_cases r : j < a
          · simp only [if_pos q, if_pos r]
            exact h2 i j hij (by omega)
          · simp only [if_pos q, if_neg r]
            exact h2 i (j + 1) (by omega) (by omega)
        · have r : ¬ j < a := by omega
          simp only [if_neg q, if_neg r]
          exact h2 (i + 1) (j + 1) (by omega) (by omega))
      omega
    · have hg := ih n f (fun i hi => by
        have b1 := h1 i hi
        have b2 : f i ≠ m := fun e => hx ⟨i, hi, e⟩
        omega) h2
      omega
theorem not_f {b : Bool} (h : (!b) = false) : b = true := by cases b <;> simp at h ⊢
theorem not_t {b : Bool} (h : ¬ b = true) : b = false := by cases b <;> simp at h ⊢
def SB (B : Int32 → Int32 → Bool) (i : Nat) : Bool := stB B (nI (i % 20)) (nI (i / 20))
def stt (S : Nat → Bool) (i : Nat) : Bool := S i && (decide (i % 20 = 0) || !S (i - 1))
def cnt (S : Nat → Bool) : Nat → Nat
  | 0 => 0
  | i + 1 => if stt S i = true then cnt S i + 1 else cnt S i
def lgF (S : Nat → Bool) (i : Nat) : Int32 := if S i = true then nI (cnt S (i + 1) - 1) else -1
def loA (S : Nat → Bool) (f : Nat → Int32) : Nat → Nat → Int32
  | 0 => f
  | i + 1 => upd (loA S f i) i (lgF S i)
def scA (S : Nat → Bool) (v f : Nat → Int32) : Nat → Nat → Int32
  | 0 => f
  | i + 1 => if stt S i = true then upd (scA S v f i) (cnt S i) (v i) else scA S v f i
def leA (S : Nat → Bool) (f : Nat → Int32) : Nat → Nat → Int32
  | 0 => f
  | i + 1 => if stt S i = true then upd (leA S f i) (cnt S i) 1 else if S i = true then upd (leA S f i) (cnt S i - 1) (leA S f i (cnt S i - 1) + 1) else leA S f i
theorem cnt_mono (S : Nat → Bool) (i : Nat) : cnt S i ≤ cnt S (i + 1) := by
  show cnt S i ≤ if stt S i = true then cnt S i + 1 else cnt S i
  split <;> omega
theorem cnt_first (S : Nat → Bool) : ∀ i k, k < cnt S i → ∃ j, j < i ∧ stt S j = true ∧ cnt S j = k := by
  intro i
  induction i with
  | zero => intro k h; exact absurd h (Nat.not_lt_zero _)
  | succ i ih =>
    intro k h
    by_cases q : stt S i = true
    · rw [cnt, if_pos q] at h
      rcases Nat.lt_or_ge k (cnt S i) with h2 | h2
      · obtain ⟨j, a, b⟩ := ih k h2; exact ⟨j, by omega, b⟩
      · exact ⟨i, by omega, q, by omega⟩
    · rw [cnt, if_neg q] at h
      obtain ⟨j, a, b⟩ := ih k h; exact ⟨j, by omega, b⟩
theorem cnt_mono_le (S : Nat → Bool) {i j : Nat} (h : i ≤ j) : cnt S i ≤ cnt S j := by
  induction j with
  | zero => rw [Nat.le_zero.mp h]; exact Nat.le_refl _
  | succ j ih =>
    rcases Nat.lt_or_ge i (j + 1) with q | q
    · exact Nat.le_trans (ih (by omega)) (cnt_mono S j)
    · rw [show i = j + 1 by omega]; exact Nat.le_refl _
theorem stt_S {S : Nat → Bool} {i : Nat} (h : stt S i = true) : S i = true := by
  unfold stt at h
  rw [Bool.and_eq_true] at h
  exact h.1
theorem cnt_inj {S : Nat → Bool} {i j : Nat} (hi : stt S i = true) (hj : stt S j = true) (h : cnt S i = cnt S j) : i = j := by
  rcases Nat.lt_trichotomy i j with q | q | q
  · have h1 := cnt_mono_le S (show i + 1 ≤ j by omega)
    rw [cnt, if_pos hi] at h1; omega
  · exact q
  · have h1 := cnt_mono_le S (show j + 1 ≤ i by omega)
    rw [cnt, if_pos hj] at h1; omega
theorem SB_ex {B : Int32 → Int32 → Bool} {i : Nat} (hi : i + 20 < 2 ^ 31) (h : SB B (i + 20) = true) : SB B i = false := by
  unfold SB stB at h ⊢
  rw [Bool.and_eq_true] at h
  have e1 : (i + 20) % 20 = i % 20 := by omega
  have e2 : nI ((i + 20) / 20) - 1 = nI (i / 20) := by rw [show (i + 20) / 20 = i / 20 + 1 by omega]; exact nI_pred _
  rw [e1, e2] at h
  rw [h.2]
  rfl
theorem pair_inj {B : Int32 → Int32 → Bool} {i j : Nat} (hi : i < 200) (hj : j < 200) (h1 : SB B i = true) (h2 : SB B j = true) (h : i / 40 * 20 + i % 20 = j / 40 * 20 + j % 20) : i = j := by
  have h3 : i = j ∨ i = j + 20 ∨ j = i + 20 := by omega
  rcases h3 with q | q | q
  · exact q
  · subst q; rw [SB_ex (by omega) h1] at h2; exact absurd h2 (by decide)
  · subst q; rw [SB_ex (by omega) h2] at h1; exact absurd h1 (by decide)
theorem cnt_lt {B : Int32 → Int32 → Bool} {i : Nat} (hi : i < 200) (h : stt (SB B) i = true) : cnt (SB B) i < 100 := by
  have hf : ∀ k, ∃ j, k < cnt (SB B) i + 1 → j < 200 ∧ stt (SB B) j = true ∧ cnt (SB B) j = k := by
    intro k
    rcases Nat.lt_or_ge k (cnt (SB B) i) with q | q
    · obtain ⟨j, a, b⟩ := cnt_first (SB B) i k q; exact ⟨j, fun _ => ⟨by omega, b⟩⟩
    · exact ⟨i, fun h2 => ⟨hi, h, by omega⟩⟩
  have h9 := fb_holes 100 (cnt (SB B) i + 1) (fun k => Classical.choose (hf k) / 40 * 20 + Classical.choose (hf k) % 20) (fun k hk => by
    have h1 := (Classical.choose_spec (hf k) hk).1
    show _ / 40 * 20 + _ % 20 < 100
    omega) (fun a b hab hb he => by
    have h1 := Classical.choose_spec (hf a) (by omega)
    have h2 := Classical.choose_spec (hf b) hb
    have h3 := pair_inj h1.1 h2.1 (stt_S h1.2.1) (stt_S h2.2.1) he
    rw [h3] at h1
    omega)
  omega
theorem cnt_le {B : Int32 → Int32 → Bool} : ∀ {i : Nat}, i ≤ 200 → cnt (SB B) i ≤ 100 := by
  intro i
  induction i with
  | zero => intro _; exact Nat.zero_le _
  | succ i ih =>
    intro hi
    rw [cnt]
    split
    · rename_i h; have := cnt_lt (by omega) h; omega
    · exact ih (by omega)
theorem cnt_pos {S : Nat → Bool} {i : Nat} (h1 : S i = true) (h2 : stt S i = false) : 1 ≤ cnt S i ∧ i % 20 ≠ 0 ∧ S (i - 1) = true := by
  unfold stt at h2
  rw [h1, Bool.true_and, Bool.or_eq_false_iff] at h2
  have a := of_decide_eq_false h2.1
  have b : S (i - 1) = true := not_f h2.2
  refine ⟨?_, a, b⟩
  -- the cell before stands, so some ledge began at or before it
  have key : ∀ n j, j % 20 ≤ n → S j = true → 1 ≤ cnt S (j + 1) := by
    intro n
    induction n with
    | zero =>
      intro j hj hS
      rw [cnt, if_pos (by unfold stt; rw [hS, decide_eq_true (show j % 20 = 0 by omega)]; rfl)]; omega
    | succ n ih =>
      intro j hj hS
      by_cases q : stt S j = true
      · rw [cnt, if_pos q]; omega
      · rw [cnt, if_neg q]
        have q2 : stt S j = false := not_t q
        unfold stt at q2
        rw [hS, Bool.true_and, Bool.or_eq_false_iff] at q2
        have a2 := of_decide_eq_false q2.1
        have b2 : S (j - 1) = true := not_f q2.2
        have := ih (j - 1) (by omega) b2
        rw [show j - 1 + 1 = j by omega] at this
        exact this
  have := key 20 (i - 1) (by omega) b
  rw [show i - 1 + 1 = i by omega] at this
  exact this
theorem SB_rc {B : Int32 → Int32 → Bool} {r c : Nat} (hc : c < 20) : SB B (20 * r + c) = stB B (nI c) (nI r) := by
  unfold SB
  rw [show (20 * r + c) % 20 = c by omega, show (20 * r + c) / 20 = r by omega]
theorem stt_rc {B : Int32 → Int32 → Bool} (hB : ∀ y, B (nI 0 - 1) y = true) {r c : Nat} (hc : c < 20) (h : SB B (20 * r + c) = true) : stt (SB B) (20 * r + c) = !stB B (nI c - 1) (nI r) := by
  unfold stt
  rw [h, Bool.true_and]
  rcases Nat.eq_zero_or_pos c with q | q
  · subst q
    rw [show decide ((20 * r + 0) % 20 = 0) = true by apply decide_eq_true; omega]
    unfold stB
    rw [hB]; rfl
  · rw [show decide ((20 * r + c) % 20 = 0) = false by apply decide_eq_false; omega, Bool.false_or, show 20 * r + c - 1 = 20 * r + (c - 1) by omega, SB_rc (by omega)]
    rw [show nI c - 1 = nI (c - 1) by rw [show c = (c - 1) + 1 by omega]; exact nI_pred _]
theorem st_nI {n j : Nat} {f : Nat → Int32} {v : Int32} (h : j < n) (hn : n < 2 ^ 31) : stX n f (nI j) v = upd f j v := by
  unfold stX
  rw [if_neg (nI_pos (by omega)), if_neg (nI_ge h hn), nI_clamp (by omega)]
theorem at_nI {n j : Nat} {f : Nat → Int32} (h : j < n) (hn : n < 2 ^ 31) : atX n f (nI j) = f j := by
  unfold atX
  rw [if_neg (nI_pos (by omega)), if_neg (nI_ge h hn), nI_clamp (by omega)]
theorem nI_sub1 {n : Nat} (h : 1 ≤ n) : nI n - 1 = nI (n - 1) := by
  rw [show n = (n - 1) + 1 by omega]; exact nI_pred _
theorem upd_upd (f : Nat → Int32) (k : Nat) (x y : Int32) : upd (upd f k x) k y = upd f k y := by
  funext j
  unfold upd
  split <;> rfl
theorem nI_20 (r c : Nat) : nI r * 20 + nI c = nI (20 * r + c) := by
  rw [show (20 : Int32) = nI 20 from rfl, pk_mul, nI_add, Nat.mul_comm]
theorem add_eq {S : Nat → Bool} {v1 v2 f1 f2 f3 : Nat → Int32} {i : Nat} {ag : Bool} {u : (Nat → Int32) × (Nat → Int32) × (Nat → Int32) × Nat × Nat} {x y : Int32} (hS : S i = true) (hg : stt S i = !ag) (hx : x = v1 i) (hy : y = v2 i)
    (h1 : ag = true → u.1 = scA S v1 f1 i ∧ u.2.1 = scA S v2 f2 i ∧ u.2.2.1 = upd (leA S f3 i) (cnt S i - 1) (leA S f3 i (cnt S i - 1) + 1) ∧ u.2.2.2.1 = cnt S i ∧ u.2.2.2.2 = cnt S i - 1)
    (h2 : ag = false → u.1 = upd (scA S v1 f1 i) (cnt S i) x ∧ u.2.1 = upd (scA S v2 f2 i) (cnt S i) y ∧ u.2.2.1 = upd (leA S f3 i) (cnt S i) 1 ∧ u.2.2.2.1 = cnt S i + 1 ∧ u.2.2.2.2 = cnt S i) :
    u.1 = scA S v1 f1 (i + 1) ∧ u.2.1 = scA S v2 f2 (i + 1) ∧ u.2.2.1 = leA S f3 (i + 1) ∧ u.2.2.2.1 = cnt S (i + 1) ∧ nI u.2.2.2.2 = lgF S i := by
  have e5 : u.2.2.2.1 = cnt S (i + 1) := by
    rw [cnt]
    cases ag
    · rw [(h2 rfl).2.2.2.1, hg]; rfl
    · rw [(h1 rfl).2.2.2.1, hg]; rfl
  have e6 : u.2.2.2.2 = cnt S (i + 1) - 1 := by
    rw [← e5]
    cases ag
    · rw [(h2 rfl).2.2.2.1, (h2 rfl).2.2.2.2]; omega
    · rw [(h1 rfl).2.2.2.1, (h1 rfl).2.2.2.2]
  refine ⟨?_, ?_, ?_, e5, by rw [e6, lgF, if_pos hS]⟩
  · rw [scA]
    cases ag
    · rw [(h2 rfl).1, hg, hx]; rfl
    · rw [(h1 rfl).1, hg]; rfl
  · rw [scA]
    cases ag
    · rw [(h2 rfl).2.1, hg, hy]; rfl
    · rw [(h1 rfl).2.1, hg]; rfl
  · rw [leA]
    cases ag
    · rw [(h2 rfl).2.2.1, hg]; rfl
    · rw [(h1 rfl).2.2.1, hg, if_neg (by decide), if_pos hS]
theorem non_eq {S : Nat → Bool} {v f : Nat → Int32} {i : Nat} (hS : S i = false) : scA S v f (i + 1) = scA S v f i ∧ leA S f (i + 1) = leA S f i ∧ cnt S (i + 1) = cnt S i ∧ lgF S i = -1 := by
  have h : ¬ stt S i = true := fun q => by rw [stt_S q] at hS; cases hS
  have h2 : ¬ S i = true := by rw [hS]; decide
  exact ⟨by rw [scA, if_neg h], by rw [leA, if_neg h, if_neg h2], by rw [cnt, if_neg h], by rw [lgF, if_neg h2]⟩
theorem blkX_out (bl : Nat → Int32) (y : Int32) : blkX bl (nI 0 - 1) y = true := by
  unfold blkX
  rw [if_pos (by decide)]
