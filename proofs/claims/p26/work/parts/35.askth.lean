/-! what is asked, told of the state -/
theorem hasX_nI {n : Nat} {x : Int32} (hn : n < 2 ^ 31) (h : hasX n x = true) : ∃ k : Nat, k < n ∧ x = nI k := by
  unfold hasX at h
  split at h
  · cases h
  · rename_i h1
    split at h
    · cases h
    · rename_i h2
      obtain ⟨c, hc, rfl⟩ := nI_of h1
      exact ⟨c, lt_of_nge hn hc h2, rfl⟩
theorem CachK.map {B : Int32 → Int32 → Bool} {a f s : Int32} {mk rk : Bool} {ms ms' : Int32} {ro fi le lo ro' fi' le' lo' : Nat → Int32} {rs : Int32} {lr og sp : Nat → Int32} {rt : Int32} {ta : Nat → Int32} (h : CachK B a f s mk rk ms ro fi le lo rs lr og sp rt ta) (hM : MapOK B ms' ro' fi' le' lo') : CachK B a f s true rk ms' ro' fi' le' lo' rs lr og sp rt ta :=
  ⟨fun _ => hM, fun q => ⟨rfl, (h.2 q).2⟩⟩
theorem CachK.all {B : Int32 → Int32 → Bool} {a f s : Int32} {ms : Int32} {ro fi le lo : Nat → Int32} {rs : Int32} {lr og sp : Nat → Int32} {rt : Int32} {ta : Nat → Int32} (hM : MapOK B ms ro fi le lo) (hR : RchOK B a f s rs lr) (h1 : RtOK lr (nL B) og sp) (h2 : TbOK lr (nL B) rt ta) : CachK B a f s true true ms ro fi le lo rs lr og sp rt ta :=
  ⟨fun _ => hM, fun _ => ⟨rfl, hR, h1, h2⟩⟩
theorem cell_S {S : KS} {bl se lo : Nat → Int32} {c r l w f : Int32} (hA : AbsX S bl se c r l w f) (hlo : ∀ i, i < 200 → lo i = lgF (SB (blkX bl)) i) {i j k : Nat} (hi : i < 20) (hj : j < 10) (hk : k < 5) : cellF (blkX bl) lo (nI i) (nI j) k = cellS S i j k := by
  rw [blk_abs hA] at hlo ⊢
  rcases (show k = 0 ∨ k = 1 ∨ k = 2 ∨ k = 3 ∨ k = 4 by omega) with rfl | rfl | rfl | rfl | rfl
  · rfl
  · rfl
  · show laX lo (nI i) (nI j) = lgF _ _
    rw [laX_c hi hj]; exact hlo _ (by omega)
  · rfl
  · rfl
theorem ledge_S {S : KS} {bl se ro fi le lo lr : Nat → Int32} {c r l w f ms rs : Int32} (hA : AbsX S bl se c r l w f) (hM : MapOK (blkX bl) ms ro fi le lo) {a k : Nat} (hR : 3 ≤ k → RchOK (blkX bl) (se 0) (se 1) (se 2) rs lr) (ha : a < nL (blkX bl)) (hk : k < 6) : ledgeF ro fi le lr (nL (blkX bl)) a k = ledgeS S a k := by
  have hn := nL_le (blkX bl)
  have hB : nL (blkX bl) = nS S := by rw [blk_abs hA]
  have h3 := hM.2.2 a ha
  rw [blk_abs hA] at h3
  rcases (show k = 0 ∨ k = 1 ∨ k = 2 ∨ k = 3 ∨ k = 4 ∨ k = 5 by omega) with rfl | rfl | rfl | rfl | rfl | rfl
  · exact h3.1
  · exact h3.2.1
  · exact h3.2.2
  · have hR := hR (by decide)
    show nI (cntB _ _) = nI (cntB _ _)
    rw [← hB]
    refine congrArg nI (cntB_cong fun to ht => ?_)
    rw [(comeF_eq lr a to).1, Rk_RS hA hR (by decide) a to (by omega) (by omega)]
  · have hR := hR (by decide)
    show nI (cntB _ _) = nI (cntB _ _)
    rw [← hB]
    refine congrArg nI (cntB_cong fun to ht => ?_)
    rw [(comeF_eq lr a to).2, Rk_RS hA hR (by decide) a to (by omega) (by omega)]
  · have hR := hR (by decide)
    show nI (cntB _ _) = nI (cntB _ _)
    rw [← hB]
    refine congrArg nI (cntB_cong fun to ht => ?_)
    rw [(comeF_eq lr to a).1, Rk_RS hA hR (by decide) to a (by omega) (by omega)]
theorem count_S {S : KS} {bl se lo lr og sp : Nat → Int32} {c r l w f rs : Int32} {hn : Nat} (hA : AbsX S bl se c r l w f) (hw : Wf S) (hlo : ∀ i, i < 200 → lo i = lgF (SB (blkX bl)) i) {k : Nat} (hk : k < 10) (hR : k = 8 → RchOK (blkX bl) (se 0) (se 1) (se 2) rs lr ∧ RtOK lr (nL (blkX bl)) og sp ∧ og 3 = nI (owS S)) : countF bl lo sp (nL (blkX bl)) c r l w f (nI hn) k = countS S hn k := by
  have hB : nL (blkX bl) = nS S := by rw [blk_abs hA]
  rcases (show k = 0 ∨ k = 1 ∨ k = 2 ∨ k = 3 ∨ k = 4 ∨ k = 5 ∨ k = 6 ∨ k = 7 ∨ k = 8 ∨ k = 9 by omega) with rfl | rfl | rfl | rfl | rfl | rfl | rfl | rfl | rfl | rfl
  · exact blocks_abs hA
  · exact congrArg nI hB
  · exact hA.at_c
  · exact hA.at_r
  · exact la_own hA hw hlo
  · exact hA.2.2.2.1
  · exact hA.2.2.2.2.1
  · exact hA.2.2.2.2.2
  · obtain ⟨h1, h2, h3⟩ := hR rfl
    show nI _ - nI (cntB _ _) = nI _ - nI (cntB _ _)
    rw [cntB_cong (fun b hb => (rch_RS hA hw h1 (by decide) h2 h3 b hb).2), hB]
  · rfl
theorem only_S {S : KS} {bl se lr og sp : Nat → Int32} {c r l w f rs x : Int32} (hA : AbsX S bl se c r l w f) (hw : Wf S) (h1 : RchOK (blkX bl) (se 0) (se 1) (se 2) rs lr) (h2 : RtOK lr (nL (blkX bl)) og sp) (h0 : og 0 = nI (owS S)) (h3 : og 3 = nI (owS S)) : onlyF (fun b => rchB sp 3 b && !rchB sp 0 b) x (nL (blkX bl)) 0 0 = onlyS S x := by
  have hB : nL (blkX bl) = nS S := by rw [blk_abs hA]
  unfold onlyS
  rw [← hB]
  refine onlyF_cong fun j hj => ?_
  rw [(rch_RS hA hw h1 (by decide) h2 h3 j (by omega)).2, (rch_RS hA hw h1 (by decide) h2 h0 j (by omega)).2]
theorem cntB_pos {p : Nat → Bool} {i : Nat} (h : p i = true) : ∀ {n : Nat}, i < n → 1 ≤ cntB p n := by
  intro n
  induction n with
  | zero => intro q; omega
  | succ n ih =>
    intro q
    rw [cntB]
    by_cases z : i = n
    · subst z; rw [if_pos h]; omega
    · have := ih (by omega)
      split <;> omega
theorem own_rch {S : KS} (hw : Wf S) (k : Nat) : rcS S k (owS S) = true := by
  unfold rcS
  have h1 : ¬ dS S k (owS S) (owS S) = -1 := by
    have h0 := owS_lt hw
    by_cases q : ∃ x, IsD (RS S k) (nS S) (owS S) (owS S) x
    · obtain ⟨x, hx⟩ := q
      have := hx.toV
      unfold dS
      rw [← this]
      exact hx.ne.mpr ⟨0, rfl⟩
    · exact absurd ⟨0, Or.inl ⟨0, by decide, rfl, rfl, fun e he => absurd he (Nat.not_lt_zero _)⟩⟩ q
  rw [decide_eq_false h1]; rfl
theorem cnt_rch {S : KS} {bl se lr og sp : Nat → Int32} {c r l w f rs : Int32} (hA : AbsX S bl se c r l w f) (hw : Wf S) (h1 : RchOK (blkX bl) (se 0) (se 1) (se 2) rs lr) (h2 : RtOK lr (nL (blkX bl)) og sp) (h3 : og 3 = nI (owS S)) : cntB (rchB sp 3) (nL (blkX bl)) = cntB (rcS S 3) (nS S) ∧ 1 ≤ cntB (rchB sp 3) (nL (blkX bl)) ∧ 1 ≤ nL (blkX bl) := by
  have hB : nL (blkX bl) = nS S := by rw [blk_abs hA]
  have e := cntB_cong (fun b hb => (rch_RS hA hw h1 (by decide) h2 h3 b hb).2)
  refine ⟨by rw [e, hB], ?_, ?_⟩
  · rw [e, hB]; exact cntB_pos (own_rch hw 3) (owS_lt hw).1
  · rw [hB]; have := (owS_lt hw).1; omega
noncomputable def shareS (S : KS) : UInt64 := shareD (cntB (rcS S 3) (nS S)) (nS S)
/-- the least run-up -/
def IsL (E : Nat → Prop) (x : Int32) : Prop := (x = -1 ∧ ∀ u, ¬ E u) ∨ ∃ u, u ≤ 3 ∧ E u ∧ x = nI u ∧ ∀ v, E v → u ≤ v
theorem IsL.one {E : Nat → Prop} {x y : Int32} (h : IsL E x) (k : IsL E y) : x = y := by
  rcases h with ⟨h1, h2⟩ | ⟨u, -, h2, h3, h4⟩ <;> rcases k with ⟨k1, k2⟩ | ⟨v, -, k2, k3, k4⟩
  · rw [h1, k1]
  · exact absurd k2 (h2 v)
  · exact absurd h2 (k2 u)
  · have := h4 v k2
    have := k4 u h2
    rw [h3, k3, show u = v by omega]
noncomputable def lV (E : Nat → Prop) : Int32 := @dite Int32 (∃ x, IsL E x) (Classical.propDecidable _) (fun h => Classical.choose h) (fun _ => -1)
theorem IsL.toV {E : Nat → Prop} {x : Int32} (h : IsL E x) : x = lV E := by
  have hx : ∃ x, IsL E x := ⟨x, h⟩
  unfold lV
  rw [dif_pos hx]
  exact h.one (Classical.choose_spec hx)
noncomputable def slowS (S : KS) (a b : Nat) : Int32 := lV (EvA (Bk S.1) S.2.1.1 S.2.1.2.1 S.2.1.2.2 200 (100 * a + b))
theorem slow_S {S : KS} {bl se lr : Nat → Int32} {c r l w f rs : Int32} (hA : AbsX S bl se c r l w f) (h1 : RchOK (blkX bl) (se 0) (se 1) (se 2) rs lr) {a b : Nat} (ha : a < 100) (hb : b < 100) : lr (100 * a + b) = slowS S a b := by
  have h2 := h1.2
  rw [blk_abs hA, hA.2.1.1, hA.2.1.2.1, hA.2.1.2.2] at h2
  refine IsL.toV ?_
  rcases h2 (100 * a + b) (by omega) with h | h
  · exact Or.inl h
  · exact Or.inr h
theorem hL_cong {f g : Nat → Int64} {n : Nat} {h : Int64} (e : ∀ k, k < n → f k = g k) : hL f n h = hL g n h := hI_cong (fun k h hk => by rw [e k hk])
theorem set_S {S : KS} {bl se : Nat → Int32} {c r l w f : Int32} (hA : AbsX S bl se c r l w f) {k : Nat} (hk : k < 3) : se k = setS S k := by
  rcases (show k = 0 ∨ k = 1 ∨ k = 2 by omega) with rfl | rfl | rfl
  · exact hA.2.1.1
  · exact hA.2.1.2.1
  · exact hA.2.1.2.2
theorem arc_tab : ∀ a, a < 5 → ∀ f, f < 6 → ∀ t, t < 31 → hbtF (nI f) t (nI a) 0 = haoF (nI t) (nI a) (nI f) := by decide +kernel
theorem arc_S {S : KS} {bl se : Nat → Int32} {c r l w f : Int32} (hA : AbsX S bl se c r l w f) (hw : Wf S) {t : Nat} (ht : t ≤ 30) (b : Prop) [Decidable b] : (200 + (if b then hbtF (se 1) t (se 0) 0 else haoF (nI t) (se 0) (se 1)) : Int32) = arcS S t := by
  obtain ⟨na, nf, ns, ha, hf, hs, e1, e2, e3⟩ := hw.1
  unfold arcS
  rw [hA.2.1.1, hA.2.1.2.1, e1, e2, arc_tab na ha.1 nf hf.1 t (by omega)]
  split <;> rfl
theorem leap_S {S : KS} {bl se : Nat → Int32} {c r l w f d : Int32} (hA : AbsX S bl se c r l w f) (i j u k : Nat) : (if grB (blkX bl) (nI i) (nI j) d < nI u then -1 else leapF (flyF (blkX bl) d (se 1) (se 2) 100 (nI i) (nI j) 0 (nI j) false (nI u + 1) (se 0)) k) = leapS S i j d u k := by
  unfold leapS flyR
  rw [blk_abs hA, hA.2.1.1, hA.2.1.2.1, hA.2.1.2.2]
