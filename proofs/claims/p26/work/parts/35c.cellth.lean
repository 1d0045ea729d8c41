/-! what the law asks of a cell -/
theorem gr_nI {B : Int32 → Int32 → Bool} {x y d : Int32} (h : stB B x y = true) : ∃ g : Nat, g ≤ 3 ∧ grB B x y d = nI g := by
  unfold grB
  rw [if_neg (by rw [h]; decide)]
  split
  · exact ⟨0, by decide, rfl⟩
  · split
    · exact ⟨1, by decide, rfl⟩
    · split
      · exact ⟨2, by decide, rfl⟩
      · exact ⟨3, by decide, rfl⟩
theorem gr_no {B : Int32 → Int32 → Bool} {x y d : Int32} (h : stB B x y = false) : grB B x y d = -1 := by
  unfold grB
  rw [if_pos h]
theorem lg_next {S : Nat → Bool} {i : Nat} (h : i % 20 ≠ 0) (h1 : S i = true) (h2 : S (i - 1) = true) : lgN S i = lgN S (i - 1) := by
  have hs : ¬ stt S i = true := by
    unfold stt
    rw [h1, h2, decide_eq_false h]
    decide
  unfold lgN
  rw [cnt, if_neg hs, show i - 1 + 1 = i by omega]
theorem cell_st {S : KS} {c r : Nat} (hc : c < 20) (h : stB (Bk S.1) (nI c) (nI r) = true) : cellS S c r 1 = 1 ∧ cellS S c r 2 = nI (lgN (SB (Bk S.1)) (20 * r + c)) := by
  refine ⟨?_, lgF_S (by rw [SB_rc hc]; exact h)⟩
  show bI _ = 1
  rw [h]; rfl
theorem cell_no {S : KS} {c r : Nat} (hc : c < 20) (h : stB (Bk S.1) (nI c) (nI r) = false) : cellS S c r 1 = 0 ∧ cellS S c r 2 = -1 ∧ cellS S c r 3 = -1 ∧ cellS S c r 4 = -1 := by
  refine ⟨?_, ?_, gr_no h, gr_no h⟩
  · show bI _ = 0
    rw [h]; rfl
  · show lgF _ _ = -1
    unfold lgF
    rw [if_neg (by rw [SB_rc hc, h]; decide)]
theorem st_free {B : Int32 → Int32 → Bool} {x y : Int32} (h : stB B x y = true) : B x y = false ∧ B x (y - 1) = true := by
  unfold stB at h
  rw [Bool.and_eq_true] at h
  exact ⟨f_of_not h.1, h.2⟩
theorem isc {S : KS} {c r : Nat} (hc : c < 20) (hr : r < 10) :
    (cellS S c r 0 = 1 ∧ cellS S c r 1 = 0 ∧ cellS S c r 2 = -1 ∧ cellS S c r 3 = -1 ∧ cellS S c r 4 = -1)
    ∨ (cellS S c r 0 = 0 ∧ cellS S c r 1 = 0 ∧ cellS S c r 2 = -1 ∧ cellS S c r 3 = -1 ∧ cellS S c r 4 = -1 ∧ 0 < r ∧ cellS S c (r - 1) 0 = 0)
    ∨ (∃ g g3 g4 : Nat, g < 100 ∧ g3 ≤ 3 ∧ g4 ≤ 3 ∧ cellS S c r 0 = 0 ∧ cellS S c r 1 = 1 ∧ cellS S c r 2 = nI g ∧ cellS S c r 3 = nI g3 ∧ cellS S c r 4 = nI g4 ∧ (r = 0 ∨ (0 < r ∧ cellS S c (r - 1) 0 = 1)) ∧
      (c = 0 ∨ (0 < c ∧ cellS S (c - 1) r 1 = 1 ∧ cellS S (c - 1) r 2 = nI g) ∨ (0 < c ∧ cellS S (c - 1) r 1 = 0 ∧ cellS S (c - 1) r 2 = -1 ∧ cellS S c r 3 = 0))) := by
  by_cases hb : Bk S.1 (nI c) (nI r) = true
  · refine Or.inl ⟨?_, cell_no hc ?_⟩
    · show bI _ = 1
      rw [hb]; rfl
    · unfold stB
      rw [hb]; rfl
  · have hb := not_t hb
    have h0 : cellS S c r 0 = 0 := by
      show bI _ = 0
      rw [hb]; rfl
    by_cases hs : stB (Bk S.1) (nI c) (nI r) = true
    · right; right
      obtain ⟨g3, hg3, e3⟩ := gr_nI (d := 1) hs
      obtain ⟨g4, hg4, e4⟩ := gr_nI (d := -1) hs
      refine ⟨lgN (SB (Bk S.1)) (20 * r + c), g3, g4, (lgN_lt (by omega) (by rw [SB_rc hc]; exact hs)).2, hg3, hg4, h0, (cell_st hc hs).1, (cell_st hc hs).2, e3, e4, ?_, ?_⟩
      · rcases Nat.eq_zero_or_pos r with q | q
        · exact Or.inl q
        · refine Or.inr ⟨q, ?_⟩
          have := (st_free hs).2
          rw [nI_sub1 q] at this
          show bI _ = 1
          rw [this]; rfl
      · rcases Nat.eq_zero_or_pos c with q | q
        · exact Or.inl q
        · right
          by_cases ht : stB (Bk S.1) (nI (c - 1)) (nI r) = true
          · refine Or.inl ⟨q, (cell_st (by omega) ht).1, ?_⟩
            rw [(cell_st (by omega) ht).2, lg_next (i := 20 * r + c) (by omega) (by rw [SB_rc hc]; exact hs) (by rw [show 20 * r + c - 1 = 20 * r + (c - 1) by omega, SB_rc (by omega)]; exact ht), show 20 * r + c - 1 = 20 * r + (c - 1) by omega]
          · have ht := not_t ht
            obtain ⟨z1, z2, -, -⟩ := cell_no (S := S) (show c - 1 < 20 by omega) ht
            refine Or.inr ⟨q, z1, z2, ?_⟩
            show grB _ _ _ 1 = 0
            unfold grB
            rw [if_neg (by rw [hs]; decide), if_pos (by rw [show nI c - 1 * 1 = nI (c - 1) from nI_sub1 q]; exact ht)]
    · have hs := not_t hs
      obtain ⟨z1, z2, z3, z4⟩ := cell_no (S := S) hc hs
      have hd : Bk S.1 (nI c) (nI r - 1) = false := by
        unfold stB at hs
        rw [hb] at hs
        exact hs
      obtain ⟨q1, q2⟩ := row_down (Bk_OutB S.1) hr hd
      refine Or.inr (Or.inl ⟨h0, z1, z2, z3, z4, q1, ?_⟩)
      show bI _ = 0
      rw [← q2, hd]; rfl
/-! what the law asks of a leap -/
theorem EvA_le {B : Int32 → Int32 → Bool} {a f s : Int32} {n p u : Nat} (h : EvA B a f s n p u) : u ≤ 3 := by
  obtain ⟨i, d, -, -, -, -, h, -⟩ := h
  exact h
theorem isL_ex {E : Nat → Prop} (hE : ∀ u, E u → u ≤ 3) : ∃ x, IsL E x := by
  by_cases h0 : E 0
  · exact ⟨_, Or.inr ⟨0, by decide, h0, rfl, fun v _ => Nat.zero_le _⟩⟩
  · by_cases h1 : E 1
    · exact ⟨_, Or.inr ⟨1, by decide, h1, rfl, fun v hv => by
        rcases (show v = 0 ∨ 1 ≤ v by omega) with rfl | z
        · exact absurd hv h0
        · exact z⟩⟩
    · by_cases h2 : E 2
      · exact ⟨_, Or.inr ⟨2, by decide, h2, rfl, fun v hv => by
          rcases (show v = 0 ∨ v = 1 ∨ 2 ≤ v by omega) with rfl | rfl | z
          · exact absurd hv h0
          · exact absurd hv h1
          · exact z⟩⟩
      · by_cases h3 : E 3
        · exact ⟨_, Or.inr ⟨3, by decide, h3, rfl, fun v hv => by
            rcases (show v = 0 ∨ v = 1 ∨ v = 2 ∨ 3 ≤ v by omega) with rfl | rfl | rfl | z
            · exact absurd hv h0
            · exact absurd hv h1
            · exact absurd hv h2
            · exact z⟩⟩
        · exact ⟨-1, Or.inl ⟨rfl, fun v hv => by
            have := hE v hv
            rcases (show v = 0 ∨ v = 1 ∨ v = 2 ∨ v = 3 by omega) with rfl | rfl | rfl | rfl
            · exact h0 hv
            · exact h1 hv
            · exact h2 hv
            · exact h3 hv⟩⟩
abbrev EvS (S : KS) (a b u : Nat) : Prop := EvA (Bk S.1) S.2.1.1 S.2.1.2.1 S.2.1.2.2 200 (100 * a + b) u
theorem slow_spec (S : KS) (a b : Nat) : (slowS S a b = -1 ∧ ∀ u, ¬ EvS S a b u) ∨ ∃ sl, sl ≤ 3 ∧ slowS S a b = nI sl ∧ EvS S a b sl ∧ ∀ v, EvS S a b v → sl ≤ v := by
  obtain ⟨x, hx⟩ := isL_ex (E := EvS S a b) (fun u h => EvA_le h)
  have e : slowS S a b = x := hx.toV.symm
  rw [e]
  rcases hx with ⟨h1, h2⟩ | ⟨u, h1, h2, h3, h4⟩
  · exact Or.inl ⟨h1, h2⟩
  · exact Or.inr ⟨u, h1, h3, h2, h4⟩
theorem RS_iff {S : KS} {k x y : Nat} : RS S k x y = true ↔ ∃ u, u ≤ k ∧ EvS S x y u := by
  unfold RS RC
  exact @decide_eq_true_iff _ (Classical.propDecidable _)
theorem d_self {S : KS} {k a : Nat} : dS S k a a = 0 :=
  (IsD.toV (R := RS S k) (n := nS S) (o := a) (b := a) (x := 0) (Or.inl ⟨0, by decide, rfl, rfl, fun e he => absurd he (Nat.not_lt_zero _)⟩)).symm
theorem d_one {S : KS} {k a b : Nat} (ha : a < nS S) (hne : a ≠ b) (h : RS S k a b = true) : dS S k a b = 1 :=
  (IsD.toV (R := RS S k) (n := nS S) (o := a) (b := b) (x := 1) (Or.inl ⟨1, by decide, rfl, ⟨a, ha, rfl, h⟩, fun e he q => by
    obtain rfl : e = 0 := by omega
    exact hne q⟩)).symm
theorem lps {S : KS} (hW : Wf S) {c r u : Nat} {d : Int32} (hd : d = 1 ∨ d = -1) (hc : c < 20) (hr : r < 10) (hu : u ≤ 3) (hS : stB (Bk S.1) (nI c) (nI r) = true) :
    ∃ m : Nat, m ≤ 3 ∧ grB (Bk S.1) (nI c) (nI r) d = nI m ∧ ((m < u ∧ ∀ k, leapS S c r d u k = -1) ∨ (u ≤ m ∧ ∃ c' j' t' p' k' : Nat, ∃ w : Bool,
      leapS S c r d u 0 = nI c' ∧ leapS S c r d u 1 = nI j' ∧ leapS S c r d u 2 = nI t' ∧ leapS S c r d u 3 = nI p' ∧ leapS S c r d u 4 = bI w ∧ stB (Bk S.1) (nI c') (nI j') = true ∧ c' < 20 ∧ j' < 10 ∧ j' ≤ p' ∧ r ≤ p' ∧ p' < 10 ∧ 2 ≤ t' ∧ t' ≤ 100 ∧
      ((d = 1 ∧ c' = c + k') ∨ (d = -1 ∧ c = c' + k')) ∧ k' ≤ (u + 1) * t' ∧ (w = false → k' = (u + 1) * t') ∧ EvS S (lgN (SB (Bk S.1)) (20 * r + c)) (lgN (SB (Bk S.1)) (20 * j' + c')) u)) := by
  obtain ⟨m, hm, em⟩ := gr_nI (d := d) hS
  refine ⟨m, hm, em, ?_⟩
  rcases Nat.lt_or_ge m u with q | q
  · refine Or.inl ⟨q, fun k => ?_⟩
    unfold leapS
    rw [if_pos (by rw [em]; exact (nI_ltI (by omega) (by omega)).mpr q)]
  · refine Or.inr ⟨q, ?_⟩
    obtain ⟨c', j', t', p', k', g1, g2, g3, g4, g5, g6, g7, g8, g9, g10, g11, g12, g13, g14, g15⟩ := flyR_facts (Bk_OutB S.1) hW.1 hd hc hr hu hS
    have hno : ¬ grB (Bk S.1) (nI c) (nI r) d < nI u := fun z => by
      rw [em] at z
      have := (nI_ltI (by omega) (by omega)).mp z
      omega
    have hl : ∀ k, leapS S c r d u k = leapF (flyR (Bk S.1) S.2.1.1 S.2.1.2.1 S.2.1.2.2 d c r u) k := fun k => by
      unfold leapS
      rw [if_neg hno]
    refine ⟨c', j', t', p', k', _, (hl 0).trans g1, (hl 1).trans g2, (hl 2).trans g3, (hl 3).trans g4, hl 4, g5, g6, g7, g8, g9, g10, g11, g12, g13, g14, g15, ?_⟩
    refine ⟨20 * r + c, d, by omega, hd, by omega, ?_, hu, 20 * j' + c', by omega, by rw [SB_rc g6]; exact g5, ?_, ?_, rfl⟩
    · rw [show (20 * r + c) % 20 = c by omega, show (20 * r + c) / 20 = r by omega, em]
      exact (nI_leI (by omega) (by omega)).mpr q
    · rw [show (20 * r + c) % 20 = c by omega, show (20 * r + c) / 20 = r by omega, show (20 * j' + c') % 20 = c' by omega]
      exact g1
    · rw [show (20 * r + c) % 20 = c by omega, show (20 * r + c) / 20 = r by omega, show (20 * j' + c') / 20 = j' by omega]
      exact g2
