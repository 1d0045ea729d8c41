/-! the reference's state -/
theorem i_lt (k : Nat) (hk : k < 1000) (x : Int32) : nI k < x ↔ nI (k + 1) ≤ x := by
  rw [Int32.lt_iff_toInt_lt, Int32.le_iff_toInt_le, nI_toInt (by omega), nI_toInt (by omega)]
  omega
theorem in_nlt (x : Int32) (k : Nat) (hk : k < 1000) : inX x 0 (nI k) = if x < 0 then false else if nI (k + 1) ≤ x then false else true := by
  unfold inX
  by_cases h : x < 0
  · rw [if_pos h, if_pos h]
  · rw [if_neg h, if_neg h]
    by_cases q : nI k < x
    · rw [if_pos q, if_pos ((i_lt k hk x).mp q)]
    · rw [if_neg q, if_neg (fun z => q ((i_lt k hk x).mpr z))]
theorem cell_in (x y : Int32) : isCellX x y = (inX x 0 19 && inX y 0 9) := by
  have h1 := in_nlt x 19 (by decide)
  have h2 := in_nlt y 9 (by decide)
  have h1 : inX x 0 19 = if x < 0 then false else if 20 ≤ x then false else true := h1
  have h2 : inX y 0 9 = if y < 0 then false else if 10 ≤ y then false else true := h2
  rw [h1, h2]
  unfold isCellX
  repeat' split
  all_goals rfl
theorem slot_in (x : Int32) : isSlotX x = inX x 0 1 := (in_nlt x 1 (by decide)).symm
theorem set_in (x : Int32) : isSetX x = inX x 0 2 := (in_nlt x 2 (by decide)).symm
theorem run_in3 (x : Int32) : isRunX x = inX x 0 3 := rfl
theorem z_add (n : Nat) : 0 + nI n = nI n := by rw [show (0 : Int32) = nI 0 from rfl, nI_add, Nat.zero_add]
def AbsM (S : KS) (g : Nat → Int32) : Prop :=
  (∀ i, i < 20 → ∃ n, n < 2 ^ 10 ∧ g i = nI n ∧ ∀ j, j < 10 → n.testBit j = S.1 i j) ∧ (g 20 = S.2.1.1 ∧ g 21 = S.2.1.2.1 ∧ g 22 = S.2.1.2.2) ∧ (g 23 = nI S.2.2.1.1 ∧ g 24 = nI S.2.2.1.2) ∧ g 25 = S.2.2.2.1 ∧ g 26 = S.2.2.2.2.1 ∧ g 27 = S.2.2.2.2.2
theorem AbsM.cong {S : KS} {g g' : Nat → Int32} (h : AbsM S g) (e : ∀ j, j < 28 → g' j = g j) : AbsM S g' := by
  obtain ⟨h1, h2, h3, h4, h5, h6⟩ := h
  refine ⟨fun i hi => ?_, ?_, ?_, ?_, ?_, ?_⟩
  · rw [e i (by omega)]; exact h1 i hi
  · rw [e 20 (by decide), e 21 (by decide), e 22 (by decide)]; exact h2
  · rw [e 23 (by decide), e 24 (by decide)]; exact h3
  · rw [e 25 (by decide)]; exact h4
  · rw [e 26 (by decide)]; exact h5
  · rw [e 27 (by decide)]; exact h6
theorem AbsM.ref {S : KS} {g : Nat → Int32} (h : AbsM S g) : AbsM (refK S) (upd g 27 (g 27 + 1)) := by
  obtain ⟨h1, h2, h3, h4, h5, h6⟩ := h
  have e : ∀ j, j ≠ 27 → upd g 27 (g 27 + 1) j = g j := fun j hj => pk_un hj
  refine ⟨fun i hi => ?_, ?_, ?_, ?_, ?_, ?_⟩
  · rw [e i (by omega)]; exact h1 i hi
  · rw [e 20 (by decide), e 21 (by decide), e 22 (by decide)]; exact h2
  · rw [e 23 (by decide), e 24 (by decide)]; exact h3
  · rw [e 25 (by decide)]; exact h4
  · rw [e 26 (by decide)]; exact h5
  · rw [pk_us, h6]; rfl
theorem AbsM.bit {S : KS} {g : Nat → Int32} (h : AbsM S g) {c r : Nat} (hc : c < 20) (hr : r < 10) : ((g c >>> (nI r &&& 31)) &&& 1 = 1) ↔ S.1 c r = true := by
  obtain ⟨n, hn, e, hb⟩ := h.1 c hc
  rw [e, ← hb r hr]
  exact bit_nI (by omega) (by omega)
theorem Bk_out {L : Nat → Nat → Bool} {x y : Int32} (h : isCellX x y = false) : Bk L x y = true := by
  refine not_f (not_t fun q => ?_)
  obtain ⟨c, r, hc, hr, rfl, rfl⟩ := Bk_OutB L x y (f_of_not q)
  rw [isCellX_in hc hr] at h
  cases h
theorem bk_t {S : KS} {g : Nat → Int32} (h : AbsM S g) {c r : Nat} {x y : Int32} (hc : c < 20) (hr : r < 10) (e1 : x = nI c) (e2 : y = nI r) (hb : (g c >>> (nI r &&& 31)) &&& 1 = 1) : bI (Bk S.1 x y) = 1 := by
  rw [e1, e2, Bk_in S.1 hc hr, (h.bit hc hr).mp hb]; rfl
theorem bk_f {S : KS} {g : Nat → Int32} (h : AbsM S g) {c r : Nat} {x y : Int32} (hc : c < 20) (hr : r < 10) (e1 : x = nI c) (e2 : y = nI r) (hb : ¬ (g c >>> (nI r &&& 31)) &&& 1 = 1) : bI (Bk S.1 x y) = 0 := by
  rw [e1, e2, Bk_in S.1 hc hr, not_t (fun q => hb ((h.bit hc hr).mpr q))]; rfl
def HistM (hist : Nat → KS) (n : Nat) (gv : Nat → Int32) : Prop := n ≤ 6 ∧ ∀ i, i < n → AbsM (hist i) (fun k => gv (28 * i + k))
theorem HistM.save {hist : Nat → KS} {n : Nat} {gv gs gv1 gv2 : Nat → Int32} {S : KS} (h : HistM hist n gv) (hS : AbsM S gs)
    (h1 : (n = 6 ∧ ∀ j, j < 140 → gv1 j = gv (28 + j)) ∨ (¬ n = 6 ∧ gv1 = gv)) (m : Nat) (hm : m = if n = 6 then 5 else n) (h2 : ∀ k, k < 28 → gv2 (28 * m + k) = gs k) (h3 : ∀ j, j < 28 * m → gv2 j = gv1 j) : HistM (pushH hist n S) (pushN n) gv2 ∧ pushN n = m + 1 := by
  obtain ⟨hn, hH⟩ := h
  unfold pushH pushN
  by_cases q : n = 6
  · rw [if_pos q] at hm
    rw [if_neg (by omega), if_neg (by omega)]
    refine ⟨⟨Nat.le_refl _, fun i hi => ?_⟩, by omega⟩
    rcases h1 with ⟨-, h1⟩ | ⟨z, -⟩
    · by_cases z : i = 5
      · show AbsM (if i = 5 then S else hist (i + 1)) _
        rw [if_pos z, z]
        exact hS.cong (fun j hj => by have := h2 j hj; rw [hm] at this; exact this)
      · show AbsM (if i = 5 then S else hist (i + 1)) _
        rw [if_neg z]
        refine (hH (i + 1) (by omega)).cong (fun j hj => ?_)
        show gv2 (28 * i + j) = gv (28 * (i + 1) + j)
        rw [h3 _ (by omega), h1 _ (by omega)]
        congr 1; omega
    · exact absurd q z
  · rw [if_neg q] at hm
    rw [if_pos (by omega), if_pos (by omega)]
    refine ⟨⟨by omega, fun i hi => ?_⟩, by omega⟩
    rcases h1 with ⟨z, -⟩ | ⟨-, h1⟩
    · exact absurd z q
    · by_cases z : i = n
      · show AbsM (if i = n then S else hist i) _
        rw [if_pos z, z]
        exact hS.cong (fun j hj => by have := h2 j hj; rw [hm] at this; exact this)
      · show AbsM (if i = n then S else hist i) _
        rw [if_neg z]
        refine (hH i (by omega)).cong (fun j hj => ?_)
        show gv2 (28 * i + j) = gv (28 * i + j)
        rw [h3 _ (by omega), h1]
/-- up, with the top -/
theorem up_top {B : Int32 → Int32 → Bool} {c : Int32} : ∀ (n j : Nat), j + n < 2 ^ 31 → ∃ k, (upF B c n (nI j)).1 = nI k ∧ j ≤ k ∧ k ≤ j + n := by
  intro n
  induction n with
  | zero => intro j h; exact ⟨j, rfl, Nat.le_refl _, Nat.le_refl _⟩
  | succ n ih =>
    intro j h
    rw [upF]
    split
    · exact ⟨j, rfl, Nat.le_refl _, by omega⟩
    · rw [nI_1]
      obtain ⟨k, a, b, d⟩ := ih (j + 1) (by omega)
      exact ⟨k, a, by omega, by omega⟩
theorem max2_nI {a b : Nat} (ha : a < 2 ^ 31) (hb : b < 2 ^ 31) : max2 (nI a) (nI b) = nI (max a b) := by
  unfold max2
  by_cases h : a < b
  · rw [if_pos ((nI_ltI ha hb).mpr h)]; congr 1; omega
  · rw [if_neg (fun q => h ((nI_ltI ha hb).mp q))]; congr 1; omega
