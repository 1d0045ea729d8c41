/-! what the runner and the level do -/
theorem fb_xorI (a b : Nat) : nI a ^^^ nI b = nI (a ^^^ b) := by
  apply Int32.toBitVec_inj.1
  show BitVec.ofNat 32 a ^^^ BitVec.ofNat 32 b = BitVec.ofNat 32 (a ^^^ b)
  apply BitVec.eq_of_getLsbD_eq
  intro i hi
  simp [hi]
def Bk (L : Nat → Nat → Bool) (x y : Int32) : Bool := if x < 0 then true else if 20 ≤ x then true else if y < 0 then true else if y < 10 then L x.toNatClampNeg y.toNatClampNeg else true
theorem sh_l : ∀ n, n < 32 → ((nI n &&& 31).toBitVec.smod 32).toNat = n := by decide +kernel
theorem bit_nI {n i : Nat} (hn : n < 2 ^ 20) (hi : i < 20) : ((nI n >>> (nI i &&& 31)) &&& 1 = 1) ↔ n.testBit i = true := by
  rw [pk_shrN (by omega) _ i (sh_l i (by omega)), pk_andN (by have := Nat.div_le_self n (2 ^ i); omega) 1 (by decide), Nat.testBit_eq_decide_div_mod_eq, decide_eq_true_iff]
  have h2 : n / 2 ^ i % 2 ^ 1 < 2 := Nat.mod_lt _ (by decide)
  constructor
  · intro h
    have := nI_inj (a := n / 2 ^ i % 2 ^ 1) (b := 1) (by omega) (by decide) h
    exact this
  · intro h
    rw [show n / 2 ^ i % 2 ^ 1 = 1 from h]; rfl
theorem blk_abs {S : KS} {bl se : Nat → Int32} {c r l w f : Int32} (h : AbsX S bl se c r l w f) : blkX bl = Bk S.1 := by
  funext x y
  unfold blkX Bk
  split
  · rfl
  · rename_i h1
    split
    · rfl
    · rename_i h2
      split
      · rfl
      · rename_i h3
        split
        · rename_i h4
          obtain ⟨i, hi, rfl⟩ := nI_of h1
          obtain ⟨j, hj, rfl⟩ := nI_of h3
          have hi2 : i < 20 := Nat.lt_of_not_le fun q => h2 ((nI_leI (a := 20) (by decide) hi).mpr q)
          have hj2 : j < 10 := (nI_ltI (b := 10) hj (by decide)).mp h4
          obtain ⟨n, hn, e, hb⟩ := h.1 j hj2
          rw [nI_clamp hi, nI_clamp hj, e, ← hb i hi2]
          have := bit_nI hn hi2
          by_cases q : n.testBit i = true
          · rw [q, decide_eq_true (this.mpr q)]
          · rw [not_t q, decide_eq_false (fun z => q (this.mp z))]
        · rfl
theorem Bk_OutB (L : Nat → Nat → Bool) : OutB (Bk L) := by
  intro x y h
  unfold Bk at h
  split at h
  · cases h
  · rename_i h1
    split at h
    · cases h
    · rename_i h2
      split at h
      · cases h
      · rename_i h3
        split at h
        · rename_i h4
          obtain ⟨c, hc, rfl⟩ := nI_of h1
          obtain ⟨r, hr, rfl⟩ := nI_of h3
          exact ⟨c, r, Nat.lt_of_not_le fun q => h2 ((nI_leI (a := 20) (by decide) hc).mpr q), (nI_ltI (b := 10) hr (by decide)).mp h4, rfl, rfl⟩
        · cases h
theorem Bk_in (L : Nat → Nat → Bool) {c r : Nat} (hc : c < 20) (hr : r < 10) : Bk L (nI c) (nI r) = L c r := by
  unfold Bk
  rw [if_neg (nI_pos (by omega)), if_neg (fun q => by have := (nI_leI (a := 20) (b := c) (by decide) (by omega)).mp q; omega), if_neg (nI_pos (by omega)), if_pos (show nI r < (10 : Int32) from (nI_ltI (b := 10) (by omega) (by decide)).mpr hr), nI_clamp (by omega), nI_clamp (by omega)]
def flipL (L : Nat → Nat → Bool) (c r : Nat) : Nat → Nat → Bool := fun i j => if i = c ∧ j = r then !L i j else L i j
theorem sh_2 : ∀ i, i < 20 → ((1 : Int32) <<< (nI i &&& 31)) = nI (2 ^ i) := by decide +kernel
theorem tb_bits {S : KS} {bl se : Nat → Int32} {c r l w f : Int32} (h : AbsX S bl se c r l w f) {i j : Nat} (hi : i < 20) (hj : j < 10) : ∀ k, k < 10 → ∃ n, n < 2 ^ 20 ∧ tbX bl (nI i) (nI j) k = nI n ∧ ∀ m, m < 20 → n.testBit m = flipL S.1 i j m k := by
  intro k hk
  have e : tbX bl (nI i) (nI j) = upd bl j (bl j ^^^ nI (2 ^ i)) := by
    unfold tbX
    rw [if_neg (nI_pos (by omega)), if_neg (fun q => by have := (nI_leI (a := 10) (b := j) (by decide) (by omega)).mp q; omega), nI_clamp (by omega), sh_2 i hi]
  rw [e]
  by_cases q : k = j
  · subst q
    obtain ⟨n, hn, e2, hb⟩ := h.1 k hk
    refine ⟨n ^^^ 2 ^ i, Nat.xor_lt_two_pow hn (Nat.pow_lt_pow_right (by decide) hi), by rw [pk_us, e2, fb_xorI], fun m hm => ?_⟩
    rw [Nat.testBit_xor, Nat.testBit_two_pow, hb m hm]
    unfold flipL
    by_cases z : m = i
    · subst z; rw [if_pos ⟨rfl, rfl⟩]; simp
    · rw [if_neg (fun h => z h.1), decide_eq_false (fun h => z h.symm)]; simp
  · obtain ⟨n, hn, e2, hb⟩ := h.1 k hk
    refine ⟨n, hn, by rw [pk_un q]; exact e2, fun m hm => ?_⟩
    rw [hb m hm]
    unfold flipL
    rw [if_neg (fun h => q h.2)]
/-- a state that can be: settings in range, the runner stands -/
def Wf (S : KS) : Prop := SeR S.2.1.1 S.2.1.2.1 S.2.1.2.2 ∧ S.2.2.1.1 < 20 ∧ S.2.2.1.2 < 10 ∧ stB (Bk S.1) (nI S.2.2.1.1) (nI S.2.2.1.2) = true
def refK (S : KS) : KS := (S.1, S.2.1, S.2.2.1, S.2.2.2.1, S.2.2.2.2.1, S.2.2.2.2.2 + 1)
def buildK (S : KS) (c r : Nat) : KS × Int32 := if c = S.2.2.1.1 ∧ r = S.2.2.1.2 then (refK S, -1)
  else ((flipL S.1 c r, S.2.1, (S.2.2.1.1, (fallB (Bk (flipL S.1 c r)) (nI S.2.2.1.1) 10 (nI S.2.2.1.2)).toNatClampNeg), S.2.2.2), bI (Bk (flipL S.1 c r) (nI c) (nI r)))
def walkK (S : KS) (d : Int32) : KS × Int32 := if stB (Bk S.1) (nI S.2.2.1.1 + d) (nI S.2.2.1.2) = true then ((S.1, S.2.1, ((nI S.2.2.1.1 + d).toNatClampNeg, S.2.2.1.2), S.2.2.2), nI S.2.2.1.1 + d) else (refK S, -1)
def leapR (S : KS) (d : Int32) (k : Nat) : FS := flyR (Bk S.1) S.2.1.1 S.2.1.2.1 S.2.1.2.2 d S.2.2.1.1 S.2.2.1.2 k
def leapK (S : KS) (d : Int32) (k : Nat) : KS × Int32 := if grB (Bk S.1) (nI S.2.2.1.1) (nI S.2.2.1.2) d < nI k then (refK S, -1)
  else ((S.1, S.2.1, ((leapR S d k).1.toNatClampNeg, (leapR S d k).2.1.toNatClampNeg), S.2.2.2.1 + 1, (if (leapR S d k).2.2.2.2.1 = true then S.2.2.2.2.1 + 1 else S.2.2.2.2.1), S.2.2.2.2.2), 100 * (leapR S d k).2.1 + (leapR S d k).1)
theorem fall_spec {B : Int32 → Int32 → Bool} (hB : OutB B) {c : Int32} : ∀ (n j : Nat), j < 10 → B c (nI j) = false → j < n → ∃ j', fallB B c n (nI j) = nI j' ∧ j' ≤ j ∧ stB B c (nI j') = true := by
  intro n
  induction n with
  | zero => intro j _ _ h; omega
  | succ n ih =>
    intro j hj h hn
    rw [fallB]
    split
    · rename_i q; exact ⟨j, rfl, Nat.le_refl _, q⟩
    · rename_i q
      have hb : B c (nI j - 1) = false := by
        cases hh : B c (nI j - 1) with
        | false => rfl
        | true => exact absurd (by unfold stB; rw [h, hh]; rfl) q
      obtain ⟨h1, h2⟩ := row_down hB hj hb
      rw [h2]
      obtain ⟨j', a, b, c1⟩ := ih (j - 1) (by omega) (by rw [← h2]; exact hb) (by omega)
      exact ⟨j', a, by omega, c1⟩
theorem Wf.free {S : KS} (h : Wf S) : Bk S.1 (nI S.2.2.1.1) (nI S.2.2.1.2) = false := by
  have := h.2.2.2
  unfold stB at this
  rw [Bool.and_eq_true] at this
  exact f_of_not this.1
theorem build_fall {S : KS} (h : Wf S) {c r : Nat} (hc : c < 20) (hr : r < 10) (hne : ¬ (c = S.2.2.1.1 ∧ r = S.2.2.1.2)) : ∃ j, fallB (Bk (flipL S.1 c r)) (nI S.2.2.1.1) 10 (nI S.2.2.1.2) = nI j ∧ j < 10 ∧ stB (Bk (flipL S.1 c r)) (nI S.2.2.1.1) (nI j) = true := by
  have hf := h.free
  obtain ⟨j, a, b, d⟩ := fall_spec (Bk_OutB (flipL S.1 c r)) 10 S.2.2.1.2 h.2.2.1 (by
    rw [Bk_in _ h.2.1 h.2.2.1] at hf ⊢
    unfold flipL
    rw [if_neg (fun q => hne ⟨q.1.symm, q.2.symm⟩)]; exact hf) (by have := h.2.2.1; omega)
  exact ⟨j, a, by have := h.2.2.1; omega, d⟩
theorem Wf_build {S : KS} (h : Wf S) {c r : Nat} (hc : c < 20) (hr : r < 10) : Wf (buildK S c r).1 := by
  unfold buildK
  split
  · exact h
  · rename_i q
    obtain ⟨j, a, b, d⟩ := build_fall h hc hr q
    refine ⟨h.1, h.2.1, ?_, ?_⟩
    · show (fallB _ _ _ _).toNatClampNeg < 10
      rw [a, nI_clamp (by omega)]; exact b
    · show stB _ _ (nI (fallB _ _ _ _).toNatClampNeg) = true
      rw [a, nI_clamp (by omega)]; exact d
theorem st_rng {L : Nat → Nat → Bool} {x y : Int32} (h : stB (Bk L) x y = true) : ∃ c r : Nat, c < 20 ∧ r < 10 ∧ x = nI c ∧ y = nI r := by
  unfold stB at h
  rw [Bool.and_eq_true] at h
  exact Bk_OutB L x y (f_of_not h.1)
theorem Wf_walk {S : KS} (h : Wf S) (d : Int32) : Wf (walkK S d).1 := by
  unfold walkK
  split
  · rename_i q
    obtain ⟨c, r, hc, hr, e1, -⟩ := st_rng q
    refine ⟨h.1, ?_, h.2.2.1, ?_⟩
    · show (nI S.2.2.1.1 + d).toNatClampNeg < 20
      rw [e1, nI_clamp (by omega)]; exact hc
    · show stB (Bk S.1) (nI (nI S.2.2.1.1 + d).toNatClampNeg) _ = true
      rw [e1, nI_clamp (by omega), ← e1]; exact q
  · exact h
theorem leap_land {S : KS} (h : Wf S) (d : Int32) (k : Nat) : ∃ c r : Nat, c < 20 ∧ r < 10 ∧ (leapR S d k).1 = nI c ∧ (leapR S d k).2.1 = nI r ∧ stB (Bk S.1) (nI c) (nI r) = true := by
  have hi : 20 * S.2.2.1.2 + S.2.2.1.1 < 200 := by have := h.2.1; have := h.2.2.1; omega
  have e1 : (20 * S.2.2.1.2 + S.2.2.1.1) % 20 = S.2.2.1.1 := by have := h.2.1; omega
  have e2 : (20 * S.2.2.1.2 + S.2.2.1.1) / 20 = S.2.2.1.2 := by have := h.2.1; omega
  obtain ⟨j, hj, hS, a, b⟩ := flyR_land (d := d) (Bk_OutB S.1) h.1 hi (by rw [SB_rc h.2.1]; exact h.2.2.2) k
  rw [e1, e2] at a b
  exact ⟨j % 20, j / 20, by omega, by omega, a, b, hS⟩
theorem Wf_leap {S : KS} (h : Wf S) (d : Int32) (k : Nat) : Wf (leapK S d k).1 := by
  unfold leapK
  split
  · exact h
  · obtain ⟨c, r, hc, hr, e1, e2, hs⟩ := leap_land h d k
    refine ⟨h.1, ?_, ?_, ?_⟩
    · show (leapR S d k).1.toNatClampNeg < 20
      rw [e1, nI_clamp (by omega)]; exact hc
    · show (leapR S d k).2.1.toNatClampNeg < 10
      rw [e2, nI_clamp (by omega)]; exact hr
    · show stB (Bk S.1) (nI (leapR S d k).1.toNatClampNeg) (nI (leapR S d k).2.1.toNatClampNeg) = true
      rw [e1, e2, nI_clamp (by omega), nI_clamp (by omega)]; exact hs
/-- an order that can be: its numbers in range -/
def OrdOK (o c r d u : Int32) : Prop := (o = 98 ∧ ∃ i j : Nat, i < 20 ∧ j < 10 ∧ c = nI i ∧ r = nI j) ∨ (¬ o = 98 ∧ o = 119) ∨ (¬ o = 98 ∧ ¬ o = 119 ∧ ∃ k : Nat, k ≤ 3 ∧ u = nI k)
def ordK (S : KS) (o c r d u : Int32) : KS × Int32 := if o = 98 then buildK S c.toNatClampNeg r.toNatClampNeg else if o = 119 then walkK S d else leapK S d u.toNatClampNeg
theorem Wf_ord {S : KS} (h : Wf S) {o c r d u : Int32} (ho : OrdOK o c r d u) : Wf (ordK S o c r d u).1 := by
  unfold ordK
  rcases ho with ⟨rfl, i, j, hi, hj, rfl, rfl⟩ | ⟨h1, rfl⟩ | ⟨h1, h2, k, hk, rfl⟩
  · rw [if_pos rfl, nI_clamp (by omega), nI_clamp (by omega)]; exact Wf_build h hi hj
  · rw [if_neg h1, if_pos rfl]; exact Wf_walk h d
  · rw [if_neg h1, if_neg h2]; exact Wf_leap h d _
theorem seR_abs {S : KS} {bl se : Nat → Int32} {c r l w f : Int32} (h : AbsX S bl se c r l w f) (hw : Wf S) : SeR (se 0) (se 1) (se 2) := by
  rw [h.2.1.1, h.2.1.2.1, h.2.1.2.2]; exact hw.1
