/-! a leap of the reference, tick by tick -/
def FlI (B : Int32 → Int32 → Bool) (d fa sl : Int32) (F : FS) (n a : Nat) (c : Int32) (j : Nat) (t : Int32) (o : Nat) (me : Bool) (sp ri : Int32) : Prop := ri = nI a - 5 ∧ a < 10 ∧ (a < 5 → j + 1 ≤ n) ∧ (5 ≤ a → a + 6 ≤ n) ∧ flyF B d fa sl n c (nI j) t (nI o) me sp ri = F
theorem max2_t {a b : Int32} (h : a < b) : b = max2 a b := (if_pos h).symm
theorem max2_f {a b : Int32} (h : ¬ a < b) : a = max2 a b := (if_neg h).symm
theorem ri_small : ∀ a, a < 10 → (nI a - 5).toNatClampNeg < 1000 ∧ (-(nI a - 5)).toNatClampNeg < 1000 := by decide +kernel
theorem FlI.up {B : Int32 → Int32 → Bool} {d fa sl : Int32} {F : FS} {n a j o f j2 o2 : Nat} {c t sp ri c2 : Int32} {me h2 : Bool} (hB : OutB B) (hf : f < 6 ∧ 1 ≤ f) (hfa : fa = nI f) (h : FlI B d fa sl F n a c j t o me sp ri) (hp : 0 < ri) (hc : B c (nI j) = false) (hj : j ≤ o ∧ o < 10)
    (hsd : sideF B d (nI j) sp.toNatClampNeg c = (c2, h2)) (hu : nI j2 = (upF B c2 ri.toNatClampNeg (nI j)).1) (hb : j2 ≤ j + ri.toNatClampNeg) (ho : o2 = max o j2) :
    B c2 (nI j2) = false ∧ (j2 ≤ o2 ∧ o2 < 10) ∧ 1 ≤ n ∧ ∃ a2, FlI B d fa sl F (n - 1) a2 c2 j2 (t + 1) o2 (me || h2) (if h2 = true then 0 else sp) (max2 ((if (upF B c2 ri.toNatClampNeg (nI j)).2 = true then 0 else ri) - 1) (-fa)) := by
  obtain ⟨rfl, ha, h3, h4, h5⟩ := h
  subst hfa
  have hs := (ri_small a ha).1
  have hc2 := sideF_free (d := d) (r := nI j) sp.toNatClampNeg c hc
  rw [hsd] at hc2
  obtain ⟨j3, e1, e2, e3, e4⟩ := upF_spec hB (c := c2) (nI a - 5).toNatClampNeg j (by omega) hc2
  have e5 : j2 = j3 := nI_inj (by omega) (by omega) (hu.trans e1)
  subst e5
  have ha5 : 5 < a := (ri_pos a ha).mp hp
  obtain ⟨m, rfl⟩ : ∃ m, n = m + 1 := ⟨n - 1, by omega⟩
  rw [flyF, if_pos hp, hsd] at h5
  dsimp only at h5
  rw [e1, max2_nI (by omega) (by omega), ← ho] at h5
  refine ⟨e4, ⟨by omega, by omega⟩, by omega, ?_⟩
  rw [show m + 1 - 1 = m by omega]
  generalize (upF B c2 (nI a - 5).toNatClampNeg (nI j)).2 = hit at h5 ⊢
  cases hit
  · rw [if_neg Bool.false_ne_true] at h5 ⊢
    refine ⟨max (a - 1) (5 - f), ri_next a ha f hf.1 hf.2, by omega, fun q => by omega, fun q => by omega, h5⟩
  · rw [if_pos rfl] at h5 ⊢
    refine ⟨4, ri_hit f hf.1 hf.2, by decide, fun q => by omega, fun q => by omega, h5⟩
theorem FlI.down {B : Int32 → Int32 → Bool} {d fa sl : Int32} {F : FS} {n a j o f s : Nat} {c t sp ri c2 : Int32} {me h2 : Bool} (hB : OutB B) (hf : f < 6 ∧ 1 ≤ f) (hfa : fa = nI f) (hs : s < 6 ∧ 1 ≤ s) (hsl : sl = nI s) (h : FlI B d fa sl F n a c j t o me sp ri) (hp : ¬ 0 < ri) (hc : B c (nI j) = false) (hj : j ≤ o ∧ o < 10)
    (hsd : sideF B d (nI j) sp.toNatClampNeg c = (c2, h2)) : 1 ≤ n ∧ ∃ j2, (downF B c2 (stepsF (me || h2) ri sl) (nI j)).1 = nI j2 ∧ B c2 (nI j2) = false ∧ (j2 ≤ o ∧ o < 10) ∧
    ((downF B c2 (stepsF (me || h2) ri sl) (nI j)).2 = false → ∃ a2, FlI B d fa sl F (n - 1) a2 c2 j2 (t + 1) o (me || h2) (if h2 = true then 0 else sp) (max2 (ri - 1) (-fa))) ∧
    ((downF B c2 (stepsF (me || h2) ri sl) (nI j)).2 = true → c2 = F.1 ∧ nI j2 = F.2.1 ∧ t + 1 = F.2.2.1 ∧ nI o = F.2.2.2.1 ∧ (me || h2) = F.2.2.2.2.1) := by
  obtain ⟨rfl, ha, h3, h4, h5⟩ := h
  subst hfa
  subst hsl
  have hc2 := sideF_free (d := d) (r := nI j) sp.toNatClampNeg c hc
  rw [hsd] at hc2
  have ha5 : ¬ 5 < a := fun q => hp ((ri_pos a ha).mpr q)
  obtain ⟨m, rfl⟩ : ∃ m, n = m + 1 := ⟨n - 1, by omega⟩
  obtain ⟨j2, e1, e2, e3, e4, e5⟩ := downF_spec hB (c := c2) (stepsF (me || h2) (nI a - 5) (nI s)) j (by omega) hc2
  rw [flyF, if_neg hp, hsd] at h5
  dsimp only at h5
  rw [e1, max2_nI (by omega) (by omega), show max o j2 = o by omega] at h5
  refine ⟨by omega, j2, e1, e3, ⟨by omega, hj.2⟩, fun q => ?_, fun q => ?_⟩
  · rw [if_neg (by rw [q]; decide)] at h5
    have h6 := e5 q
    refine ⟨max (a - 1) (5 - f), ri_next a ha f hf.1 hf.2, by omega, fun z => ?_, fun z => ?_, h5⟩
    · show j2 + 1 ≤ m
      rcases Nat.lt_or_ge a 5 with h7 | h7
      · have := st_pos a h7 s hs.1 hs.2 (me || h2)
        have := h3 h7
        omega
      · have := h4 h7
        omega
    · show max (a - 1) (5 - f) + 6 ≤ m
      omega
  · rw [if_pos q] at h5
    rw [← h5]
    exact ⟨rfl, rfl, rfl, rfl, rfl⟩
theorem steps_met {ri sl : Int32} (h : sl < -ri) : sl.toNatClampNeg = stepsF true ri sl := by unfold stepsF min2; rw [if_pos rfl, if_pos h]
theorem steps_met2 {ri sl : Int32} (h : ¬ sl < -ri) : (-ri).toNatClampNeg = stepsF true ri sl := by unfold stepsF min2; rw [if_pos rfl, if_neg h]
theorem steps_free {ri sl : Int32} : (-ri).toNatClampNeg = stepsF false ri sl := rfl
theorem steps_0 {a s : Nat} (ha : a < 10) (hs : s < 6 ∧ 1 ≤ s) {me : Bool} (h1 : ¬ 0 < nI a - 5) (h2 : 0 ≤ nI a - 5) : stepsF me (nI a - 5) (nI s) = 0 := by
  have h3 : ¬ 5 < a := fun q => h1 ((ri_pos a ha).mpr q)
  have h4 : ∀ a, a < 5 → ¬ 0 ≤ nI a - 5 := by decide +kernel
  have h5 : ¬ a < 5 := fun q => h4 a q h2
  obtain rfl : a = 5 := by omega
  exact st_zero s hs.1 me
/-- the ledges by their first cells -/
theorem sc3 {S : Nat → Bool} {f1 f2 f3 : Nat → Int32} : ∀ i k, k < cnt S i → ∃ j, j < i ∧ scA S (fun j => nI j) f1 i k = nI j ∧ scA S (fun j => nI (j / 20)) f2 i k = nI (j / 20) ∧ scA S (fun j => nI (j % 20)) f3 i k = nI (j % 20) := by
  intro i
  induction i with
  | zero => intro k h; exact absurd h (Nat.not_lt_zero _)
  | succ i ih =>
    intro k h
    by_cases q : stt S i = true
    · rw [cnt, if_pos q] at h
      rw [scA, scA, scA, if_pos q, if_pos q, if_pos q]
      by_cases z : k = cnt S i
      · subst z
        exact ⟨i, Nat.lt_succ_self i, pk_us, pk_us, pk_us⟩
      · obtain ⟨j, hj, a, b, c⟩ := ih k (by omega)
        exact ⟨j, by omega, (pk_un z).trans a, (pk_un z).trans b, (pk_un z).trans c⟩
    · rw [cnt, if_neg q] at h
      rw [scA, scA, scA, if_neg q, if_neg q, if_neg q]
      obtain ⟨j, hj, r⟩ := ih k h
      exact ⟨j, by omega, r⟩
def MapM (S : KS) (gg gi gw : Nat → Int32) : Prop := (∀ i, i < 200 → gg i = lgF (SB (Bk S.1)) i) ∧ ∀ k, k < nS S → (∃ j, j < 200 ∧ gi k = nI j ∧ rowM (Bk S.1) k = nI (j / 20) ∧ colM (Bk S.1) k = nI (j % 20)) ∧ gw k = lenM (Bk S.1) k
theorem MapM.of (S : KS) (gg gi gw : Nat → Int32) : MapM S (loA (SB (Bk S.1)) gg 200) (scA (SB (Bk S.1)) (fun j => nI j) gi 200) (leA (SB (Bk S.1)) gw 200) :=
  ⟨fun i hi => loA_get 200 i hi, fun k hk => ⟨sc3 200 k hk, leA_ind 200 k hk⟩⟩
theorem lgF_m {S : Nat → Bool} {i : Nat} (hi : i < 200) (hS : ∀ j, j < 200 → cnt S (j + 1) ≤ 200) : lgF S i = -1 ↔ S i = false := by
  unfold lgF
  by_cases h : S i = true
  · rw [if_pos h]
    have := hS i hi
    exact ⟨fun q => absurd q (nI_ne_m1 (by omega)), fun q => by rw [h] at q; cases q⟩
  · rw [if_neg h]
    exact ⟨fun _ => not_t h, fun _ => rfl⟩
theorem cnt_200 {B : Int32 → Int32 → Bool} : ∀ j, j < 200 → cnt (SB B) (j + 1) ≤ 200 := fun j hj => Nat.le_trans (cnt_le (by omega)) (by decide)
