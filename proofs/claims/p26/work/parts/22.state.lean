/-! what is saved: level, settings, runner, counts -/
abbrev KS : Type := (Nat → Nat → Bool) × (Int32 × Int32 × Int32) × (Nat × Nat) × Int32 × Int32 × Int32
def AbsX (S : KS) (bl se : Nat → Int32) (c r l w f : Int32) : Prop :=
  (∀ j, j < 10 → ∃ n, n < 2 ^ 20 ∧ bl j = nI n ∧ ∀ i, i < 20 → n.testBit i = S.1 i j) ∧ (se 0 = S.2.1.1 ∧ se 1 = S.2.1.2.1 ∧ se 2 = S.2.1.2.2) ∧ (c = nI S.2.2.1.1 ∧ r = nI S.2.2.1.2) ∧ l = S.2.2.2.1 ∧ w = S.2.2.2.2.1 ∧ f = S.2.2.2.2.2
theorem AbsX.cong {S : KS} {bl se bl' se' : Nat → Int32} {c r l w f : Int32} (h : AbsX S bl se c r l w f) (hb : ∀ j, j < 10 → bl' j = bl j) (hs : ∀ j, j < 3 → se' j = se j) : AbsX S bl' se' c r l w f := by
  obtain ⟨h1, h2, h3⟩ := h
  refine ⟨fun j hj => ?_, ?_, h3⟩
  · rw [hb j hj]; exact h1 j hj
  · rw [hs 0 (by decide), hs 1 (by decide), hs 2 (by decide)]; exact h2
def pushH (hist : Nat → KS) (n : Nat) (S : KS) : Nat → KS := if n < 6 then (fun i => if i = n then S else hist i) else (fun i => if i = 5 then S else hist (i + 1))
def pushN (n : Nat) : Nat := if n < 6 then n + 1 else 6
def HistR (cI cW : ClassId) (hv : Nat) (hist : Nat → KS) (n : Nat) (HR : va_W) : Prop := ∃ (svf : Nat → Option Nat) (pa pb pc : Nat → Nat) (zb zs : Nat → Nat → Int32) (zc zr zl zw zf : Nat → Int32),
  HR = aW cW hv 6 svf :: oX7 (pa 0) (pb 0) (pc 0) (zc 0) (zr 0) (zl 0) (zw 0) (zf 0) :: aI cI (pb 0) 10 (zb 0) :: aI cI (pc 0) 3 (zs 0) :: oX7 (pa 1) (pb 1) (pc 1) (zc 1) (zr 1) (zl 1) (zw 1) (zf 1) :: aI cI (pb 1) 10 (zb 1) :: aI cI (pc 1) 3 (zs 1) :: oX7 (pa 2) (pb 2) (pc 2) (zc 2) (zr 2) (zl 2) (zw 2) (zf 2) :: aI cI (pb 2) 10 (zb 2) :: aI cI (pc 2) 3 (zs 2) :: oX7 (pa 3) (pb 3) (pc 3) (zc 3) (zr 3) (zl 3) (zw 3) (zf 3) :: aI cI (pb 3) 10 (zb 3) :: aI cI (pc 3) 3 (zs 3) :: oX7 (pa 4) (pb 4) (pc 4) (zc 4) (zr 4) (zl 4) (zw 4) (zf 4) :: aI cI (pb 4) 10 (zb 4) :: aI cI (pc 4) 3 (zs 4) :: oX7 (pa 5) (pb 5) (pc 5) (zc 5) (zr 5) (zl 5) (zw 5) (zf 5) :: aI cI (pb 5) 10 (zb 5) :: aI cI (pc 5) 3 (zs 5) :: [] ∧ (∀ i, i < 6 → svf i = some (pa i)) ∧ n ≤ 6 ∧ ∀ i, i < n → AbsX (hist i) (zb i) (zs i) (zc i) (zr i) (zl i) (zw i) (zf i)
def SnapR (cI cZ cW : ClassId) (kv kt : Nat) (slot : Nat → KS) (tk : Nat → Bool) (SR : va_W) : Prop := ∃ (svf : Nat → Option Nat) (gtk : Nat → Int32) (pa pb pc : Nat → Nat) (zb zs : Nat → Nat → Int32) (zc zr zl zw zf : Nat → Int32),
  SR = aW cW kv 2 svf :: aZ cZ kt 2 gtk :: oX7 (pa 0) (pb 0) (pc 0) (zc 0) (zr 0) (zl 0) (zw 0) (zf 0) :: aI cI (pb 0) 10 (zb 0) :: aI cI (pc 0) 3 (zs 0) :: oX7 (pa 1) (pb 1) (pc 1) (zc 1) (zr 1) (zl 1) (zw 1) (zf 1) :: aI cI (pb 1) 10 (zb 1) :: aI cI (pc 1) 3 (zs 1) :: [] ∧ (∀ i, i < 2 → svf i = some (pa i)) ∧ (∀ i, i < 2 → gtk i = bI (tk i)) ∧ ∀ i, i < 2 → tk i = true → AbsX (slot i) (zb i) (zs i) (zc i) (zr i) (zl i) (zw i) (zf i)
theorem cpy_lt {f g : Nat → Int32} {n j : Nat} (h : j < n) : va_cpy f g 0 0 n j = f j := by
  unfold va_cpy
  rw [if_pos ⟨Nat.zero_le _, by omega⟩]
  congr 1; omega
theorem up_s {α : Type} {f : Nat → α} {k : Nat} {v : α} : va_up f k v k = v := by unfold va_up; rw [if_pos rfl]
theorem up_n {α : Type} {f : Nat → α} {k j : Nat} {v : α} (h : j ≠ k) : va_up f k v j = f j := by unfold va_up; rw [if_neg h]
theorem pm_t {D : va_G} {A : Nat → Prop} {H : Heap} {w X P Q : va_W} (hP : va_P D vwCl (w ++ ((X ++ P) ++ Q)) H) (hD : va_D A (w ++ ((X ++ P) ++ Q))) : va_P D vwCl (w ++ ((X ++ Q) ++ P)) H ∧ va_D A (w ++ ((X ++ Q) ++ P)) := by
  have hp : (w ++ ((X ++ P) ++ Q)).Perm (w ++ ((X ++ Q) ++ P)) := by
    refine List.Perm.append_left _ ?_
    rw [List.append_assoc, List.append_assoc]
    exact List.Perm.append_left _ List.perm_append_comm
  refine ⟨fun k q hk => ?_, ?_, fun k q hk => ?_⟩
  · obtain ⟨i, hi⟩ := List.mem_iff_getElem?.mp (hp.mem_iff.mpr (List.mem_of_getElem? hk))
    exact hP i q hi
  · have hn : (w ++ ((X ++ P) ++ Q)).Pairwise (fun p q => p.1 ≠ q.1) := by
      rw [List.pairwise_iff_getElem]
      intro i j hi hj hij e
      have := hD.1 i j _ _ (List.getElem?_eq_getElem hi) (List.getElem?_eq_getElem hj) e
      omega
    have hn2 : (w ++ ((X ++ Q) ++ P)).Pairwise (fun p q => p.1 ≠ q.1) := (hp.pairwise_iff (fun h => Ne.symm h)).mp hn
    rw [List.pairwise_iff_getElem] at hn2
    intro i j p q hi hj e
    obtain ⟨hi1, rfl⟩ := List.getElem?_eq_some_iff.mp hi
    obtain ⟨hj1, rfl⟩ := List.getElem?_eq_some_iff.mp hj
    rcases Nat.lt_trichotomy i j with z | z | z
    · exact absurd e (hn2 i j hi1 hj1 z)
    · exact z
    · exact absurd e.symm (hn2 j i hj1 hi1 z)
  · obtain ⟨i, hi⟩ := List.mem_iff_getElem?.mp (hp.mem_iff.mpr (List.mem_of_getElem? hk))
    exact hD.2 i q hi
theorem blk_front {D : va_G} {A : Nat → Prop} {H : Heap} {w X B : va_W} (hP : va_P D vwCl (w ++ (X ++ B)) H) (hD : va_D A (w ++ (X ++ B))) : va_P D vwCl (w ++ (B ++ X)) H ∧ va_D A (w ++ (B ++ X)) := by
  have h := pm_t (w := w) (X := []) (P := X) (Q := B) hP hD
  exact h
theorem blk_back {D : va_G} {A : Nat → Prop} {H : Heap} {w X B : va_W} (hP : va_P D vwCl (w ++ (B ++ X)) H) (hD : va_D A (w ++ (B ++ X))) : va_P D vwCl (w ++ (X ++ B)) H ∧ va_D A (w ++ (X ++ B)) := by
  have h := pm_t (w := w) (X := []) (P := B) (Q := X) hP hD
  exact h
