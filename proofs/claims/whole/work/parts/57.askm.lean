/-! what is asked of the reference, told of the state -/
theorem own_M {S : KS} {gg gi gw : Nat → Int32} (hM : MapM S gg gi gw) (hw : Wf S) : gg (20 * S.2.2.1.2 + S.2.2.1.1) = nI (owS S) := by
  have h1 : SB (Bk S.1) (20 * S.2.2.1.2 + S.2.2.1.1) = true := by rw [SB_rc hw.2.1]; exact hw.2.2.2
  exact (hM.1 _ (by have := hw.2.1; have := hw.2.2.1; omega)).trans (lgF_S h1)
theorem cntI_t {p : Nat → Bool} {k : Nat} (h : p k = true) : nI (cntB p k) + 1 = nI (cntB p (k + 1)) := by rw [cntB, if_pos h]; exact nI_1 _
theorem cntI_f {p : Nat → Bool} {k : Nat} (h : p k = false) : nI (cntB p k) + 0 = nI (cntB p (k + 1)) := by rw [cntB, if_neg (by rw [h]; decide)]; exact Int32.add_zero _
theorem cntB_not (p : Nat → Bool) : ∀ n, cntB (fun b => !p b) n + cntB p n = n := by
  intro n
  induction n with
  | zero => rfl
  | succ n ih =>
    rw [cntB, cntB]
    cases h : p n <;> simp <;> omega
theorem away_M {S : KS} {u : Nat → Int32} (h : ∀ b, b < nS S → u b = dS S 3 (owS S) b) : nI (cntB (fun b => decide (u b = -1)) (nS S)) = nI (nS S) - nI (cntB (rcS S 3) (nS S)) := by
  have e : cntB (fun b => decide (u b = -1)) (nS S) = cntB (fun b => !rcS S 3 b) (nS S) := cntB_cong fun b hb => by rw [h b hb]; unfold rcS; rw [Bool.not_not]
  have h1 := cntB_not (rcS S 3) (nS S)
  rw [e, pk_sub (by omega)]
  congr 1; omega
theorem share_M {S : KS} : nI (nS S) - (nI (nS S) - nI (cntB (rcS S 3) (nS S))) = nI (cntB (rcS S 3) (nS S)) := by
  have h1 := cntB_le (rcS S 3) (nS S)
  rw [pk_sub h1, pk_sub (by omega)]
  congr 1; omega
theorem row_M {S : KS} {gg gi gw : Nat → Int32} (hM : MapM S gg gi gw) {a : Nat} (ha : a < nS S) : gi a / 20 = rowM (Bk S.1) a := by
  obtain ⟨⟨j, hj, e1, e2, -⟩, -⟩ := hM.2 a ha
  rw [e1, e2]
  exact pk_div (by omega) (by decide) (by decide)
theorem col_M {S : KS} {gg gi gw : Nat → Int32} (hM : MapM S gg gi gw) {a : Nat} (ha : a < nS S) : gi a - gi a / 20 * 20 = colM (Bk S.1) a := by
  obtain ⟨⟨j, hj, e1, -, e2⟩, -⟩ := hM.2 a ha
  rw [e1, e2]
  exact pk_rem (by omega) (by decide) (by decide)
def mArc (t a f : Int32) : Int32 := (if t < a + f then t else a + f) * a - (if t < a + f then t else a + f) * ((if t < a + f then t else a + f) - 1) / 2 - (t - (if t < a + f then t else a + f)) * f + 200
theorem mArc_tab : ∀ a, a < 5 → ∀ f, f < 6 → ∀ t, t < 31 → mArc (nI t) (nI a) (nI f) = 200 + haoF (nI t) (nI a) (nI f) := by decide +kernel
theorem arc_M {S : KS} (hw : Wf S) {t : Nat} (ht : t ≤ 30) : mArc (nI t) S.2.1.1 S.2.1.2.1 = arcS S t := by
  obtain ⟨na, nf, ns, ha, hf, hs, e1, e2, e3⟩ := hw.1
  unfold arcS
  rw [e1, e2, mArc_tab na ha.1 nf hf.1 t (by omega)]
/-! blocks, bit by bit -/
def dropB (n : Nat) : Nat := n &&& (n - 1)
theorem drop_lt {n : Nat} (h : 0 < n) : dropB n < n := Nat.lt_of_le_of_lt Nat.and_le_right (by omega)
theorem drop_cnt : ∀ n, n < 1024 → 0 < n → cntB n.testBit 10 = cntB (dropB n).testBit 10 + 1 := by decide +kernel
theorem drop_nI {n : Nat} (h : 0 < n) : nI n &&& (nI n - 1) = nI (dropB n) := by
  show nI n &&& (nI n - nI 1) = _
  rw [pk_sub h, fb_andI]; rfl
def colsN (L : Nat → Nat → Bool) : Nat → Nat
  | 0 => 0
  | c + 1 => colsN L c + cntB (L c) 10
theorem cntB_swap (p : Nat → Nat → Bool) : ∀ m, colsN p m = (List.range 10).foldl (fun x j => x + cntB (fun i => p i j) m) 0 := by
  intro m
  induction m with
  | zero => rfl
  | succ m ih =>
    have e : ∀ j, cntB (fun i => p i j) (m + 1) = cntB (fun i => p i j) m + (if p m j = true then 1 else 0) := by
      intro j
      rw [cntB]
      split <;> rfl
    have c : cntB (p m) 10 = (if p m 0 = true then 1 else 0) + (if p m 1 = true then 1 else 0) + (if p m 2 = true then 1 else 0) + (if p m 3 = true then 1 else 0) + (if p m 4 = true then 1 else 0) + (if p m 5 = true then 1 else 0) + (if p m 6 = true then 1 else 0) + (if p m 7 = true then 1 else 0) + (if p m 8 = true then 1 else 0) + (if p m 9 = true then 1 else 0) := by
      have s : ∀ n, cntB (p m) (n + 1) = cntB (p m) n + (if p m n = true then 1 else 0) := by
        intro n
        rw [cntB]
        split <;> rfl
      have z : cntB (p m) 0 = 0 := rfl
      rw [s, s, s, s, s, s, s, s, s, s, z]
      omega
    rw [colsN, ih, c]
    show (0 + cntB (fun i => p i 0) m + cntB (fun i => p i 1) m + cntB (fun i => p i 2) m + cntB (fun i => p i 3) m + cntB (fun i => p i 4) m + cntB (fun i => p i 5) m + cntB (fun i => p i 6) m + cntB (fun i => p i 7) m + cntB (fun i => p i 8) m + cntB (fun i => p i 9) m) + _ =
      0 + cntB (fun i => p i 0) (m + 1) + cntB (fun i => p i 1) (m + 1) + cntB (fun i => p i 2) (m + 1) + cntB (fun i => p i 3) (m + 1) + cntB (fun i => p i 4) (m + 1) + cntB (fun i => p i 5) (m + 1) + cntB (fun i => p i 6) (m + 1) + cntB (fun i => p i 7) (m + 1) + cntB (fun i => p i 8) (m + 1) + cntB (fun i => p i 9) (m + 1)
    rw [e, e, e, e, e, e, e, e, e, e]
    omega
theorem cols_blk (L : Nat → Nat → Bool) : colsN L 20 = blkN L := by
  rw [cntB_swap, blkN_rows]
  show 0 + cntB (fun i => L i 0) 20 + cntB (fun i => L i 1) 20 + cntB (fun i => L i 2) 20 + cntB (fun i => L i 3) 20 + cntB (fun i => L i 4) 20 + cntB (fun i => L i 5) 20 + cntB (fun i => L i 6) 20 + cntB (fun i => L i 7) 20 + cntB (fun i => L i 8) 20 + cntB (fun i => L i 9) 20 = _
  rw [Nat.zero_add]
theorem cols_le (L : Nat → Nat → Bool) : ∀ c, colsN L c ≤ 10 * c := by
  intro c
  induction c with
  | zero => exact Nat.le_refl _
  | succ c ih => rw [colsN]; have := cntB_le (L c) 10; omega
/-! the orders -/
theorem sh_3 : ∀ i, i < 10 → ((1 : Int32) <<< (nI i &&& 31)) = nI (2 ^ i) := by decide +kernel
theorem AbsM.flip {S : KS} {g : Nat → Int32} (h : AbsM S g) {c r : Nat} (hc : c < 20) (hr : r < 10) : AbsM (flipL S.1 c r, S.2) (upd g c (g c ^^^ (1 <<< (nI r &&& 31)))) := by
  obtain ⟨h1, h2, h3, h4, h5, h6⟩ := h
  have e : ∀ j, 20 ≤ j → upd g c (g c ^^^ (1 <<< (nI r &&& 31))) j = g j := fun j hj => pk_un (by omega)
  refine ⟨fun i hi => ?_, ?_, ?_, ?_, ?_, ?_⟩
  · by_cases q : i = c
    · subst q
      obtain ⟨n, hn, e2, hb⟩ := h1 i hi
      refine ⟨n ^^^ 2 ^ r, Nat.xor_lt_two_pow hn (Nat.pow_lt_pow_right (by decide) hr), by rw [pk_us, e2, sh_3 r hr, fb_xorI], fun j hj => ?_⟩
      rw [Nat.testBit_xor, Nat.testBit_two_pow, hb j hj]
      show _ = flipL S.1 i r i j
      unfold flipL
      by_cases z : j = r
      · subst z; rw [if_pos ⟨rfl, rfl⟩]; simp
      · rw [if_neg (fun h => z h.2), decide_eq_false (fun h => z h.symm)]; simp
    · obtain ⟨n, hn, e2, hb⟩ := h1 i hi
      refine ⟨n, hn, by rw [pk_un q]; exact e2, fun j hj => ?_⟩
      rw [hb j hj]
      show _ = flipL S.1 c r i j
      unfold flipL
      rw [if_neg (fun h => q h.1)]
  · rw [e 20 (by decide), e 21 (by decide), e 22 (by decide)]; exact h2
  · rw [e 23 (by decide), e 24 (by decide)]; exact h3
  · rw [e 25 (by decide)]; exact h4
  · rw [e 26 (by decide)]; exact h5
  · rw [e 27 (by decide)]; exact h6
/-- the runner put elsewhere -/
theorem AbsM.row {S : KS} {g : Nat → Int32} (h : AbsM S g) {x : Int32} {r : Nat} (e : x = nI r) : AbsM (S.1, S.2.1, (S.2.2.1.1, r), S.2.2.2) (upd g 24 x) := by
  obtain ⟨h1, h2, h3, h4, h5, h6⟩ := h
  have e' : ∀ j, j ≠ 24 → upd g 24 x j = g j := fun j hj => pk_un hj
  refine ⟨fun i hi => ?_, ?_, ⟨?_, ?_⟩, ?_, ?_, ?_⟩
  · rw [e' i (by omega)]; exact h1 i hi
  · rw [e' 20 (by decide), e' 21 (by decide), e' 22 (by decide)]; exact h2
  · rw [e' 23 (by decide)]; exact h3.1
  · rw [pk_us]; exact e
  · rw [e' 25 (by decide)]; exact h4
  · rw [e' 26 (by decide)]; exact h5
  · rw [e' 27 (by decide)]; exact h6
theorem AbsM.col {S : KS} {g : Nat → Int32} (h : AbsM S g) {x : Int32} {c : Nat} (e : x = nI c) : AbsM (S.1, S.2.1, (c, S.2.2.1.2), S.2.2.2) (upd g 23 x) := by
  obtain ⟨h1, h2, h3, h4, h5, h6⟩ := h
  have e' : ∀ j, j ≠ 23 → upd g 23 x j = g j := fun j hj => pk_un hj
  refine ⟨fun i hi => ?_, ?_, ⟨?_, ?_⟩, ?_, ?_, ?_⟩
  · rw [e' i (by omega)]; exact h1 i hi
  · rw [e' 20 (by decide), e' 21 (by decide), e' 22 (by decide)]; exact h2
  · rw [pk_us]; exact e
  · rw [e' 24 (by decide)]; exact h3.2
  · rw [e' 25 (by decide)]; exact h4
  · rw [e' 26 (by decide)]; exact h5
  · rw [e' 27 (by decide)]; exact h6
theorem AbsM.lea {S : KS} {g : Nat → Int32} (h : AbsM S g) {x : Int32} : AbsM (S.1, S.2.1, S.2.2.1, x, S.2.2.2.2) (upd g 25 x) := by
  obtain ⟨h1, h2, h3, h4, h5, h6⟩ := h
  have e' : ∀ j, j ≠ 25 → upd g 25 x j = g j := fun j hj => pk_un hj
  refine ⟨fun i hi => ?_, ?_, ?_, ?_, ?_, ?_⟩
  · rw [e' i (by omega)]; exact h1 i hi
  · rw [e' 20 (by decide), e' 21 (by decide), e' 22 (by decide)]; exact h2
  · rw [e' 23 (by decide), e' 24 (by decide)]; exact h3
  · exact pk_us
  · rw [e' 26 (by decide)]; exact h5
  · rw [e' 27 (by decide)]; exact h6
theorem AbsM.wal {S : KS} {g : Nat → Int32} (h : AbsM S g) {x : Int32} : AbsM (S.1, S.2.1, S.2.2.1, S.2.2.2.1, x, S.2.2.2.2.2) (upd g 26 x) := by
  obtain ⟨h1, h2, h3, h4, h5, h6⟩ := h
  have e' : ∀ j, j ≠ 26 → upd g 26 x j = g j := fun j hj => pk_un hj
  refine ⟨fun i hi => ?_, ?_, ?_, ?_, ?_, ?_⟩
  · rw [e' i (by omega)]; exact h1 i hi
  · rw [e' 20 (by decide), e' 21 (by decide), e' 22 (by decide)]; exact h2
  · rw [e' 23 (by decide), e' 24 (by decide)]; exact h3
  · rw [e' 25 (by decide)]; exact h4
  · exact pk_us
  · rw [e' 27 (by decide)]; exact h6
theorem AbsM.set {S : KS} {g : Nat → Int32} (h : AbsM S g) {k : Nat} (hk : k < 3) (v : Int32) : AbsM (putSet S k v) (upd g (20 + k) v) := by
  obtain ⟨h1, ⟨a1, a2, a3⟩, h3, h4, h5, h6⟩ := h
  have e' : ∀ j, j ≠ 20 + k → upd g (20 + k) v j = g j := fun j hj => pk_un hj
  rcases (show k = 0 ∨ k = 1 ∨ k = 2 by omega) with rfl | rfl | rfl
  · refine ⟨fun i hi => ?_, ⟨pk_us, ?_, ?_⟩, ?_, ?_, ?_, ?_⟩
    · rw [e' i (by omega)]; exact h1 i hi
    · rw [e' 21 (by decide)]; exact a2
    · rw [e' 22 (by decide)]; exact a3
    · rw [e' 23 (by decide), e' 24 (by decide)]; exact h3
    · rw [e' 25 (by decide)]; exact h4
    · rw [e' 26 (by decide)]; exact h5
    · rw [e' 27 (by decide)]; exact h6
  · refine ⟨fun i hi => ?_, ⟨?_, pk_us, ?_⟩, ?_, ?_, ?_, ?_⟩
    · rw [e' i (by omega)]; exact h1 i hi
    · rw [e' 20 (by decide)]; exact a1
    · rw [e' 22 (by decide)]; exact a3
    · rw [e' 23 (by decide), e' 24 (by decide)]; exact h3
    · rw [e' 25 (by decide)]; exact h4
    · rw [e' 26 (by decide)]; exact h5
    · rw [e' 27 (by decide)]; exact h6
  · refine ⟨fun i hi => ?_, ⟨?_, ?_, pk_us⟩, ?_, ?_, ?_, ?_⟩
    · rw [e' i (by omega)]; exact h1 i hi
    · rw [e' 20 (by decide)]; exact a1
    · rw [e' 21 (by decide)]; exact a2
    · rw [e' 23 (by decide), e' 24 (by decide)]; exact h3
    · rw [e' 25 (by decide)]; exact h4
    · rw [e' 26 (by decide)]; exact h5
    · rw [e' 27 (by decide)]; exact h6
theorem AbsM.getS {S : KS} {g : Nat → Int32} (h : AbsM S g) {k : Nat} (hk : k < 3) : g (20 + k) = setS S k := by
  rcases (show k = 0 ∨ k = 1 ∨ k = 2 by omega) with rfl | rfl | rfl
  · exact h.2.1.1
  · exact h.2.1.2.1
  · exact h.2.1.2.2
