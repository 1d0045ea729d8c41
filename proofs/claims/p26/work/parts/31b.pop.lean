/-! how many bits -/
theorem land_split (k a b m0 m1 : Nat) (ha : a < 2 ^ k) (hm : m0 < 2 ^ k) : (2 ^ k * b + a) &&& (2 ^ k * m1 + m0) = 2 ^ k * (b &&& m1) + (a &&& m0) := by
  refine Nat.eq_of_testBit_eq fun j => ?_
  have h3 : a &&& m0 < 2 ^ k := Nat.lt_of_le_of_lt Nat.and_le_left ha
  rw [Nat.testBit_and, Nat.testBit_two_pow_mul_add _ ha, Nat.testBit_two_pow_mul_add _ hm, Nat.testBit_two_pow_mul_add _ h3]
  split
  · rw [Nat.testBit_and]
  · rw [Nat.testBit_and]
theorem land16 {a b m0 m1 : Nat} (ha : a < 16) (hm : m0 < 16) : (16 * b + a) &&& (16 * m1 + m0) = 16 * (b &&& m1) + (a &&& m0) := land_split 4 a b m0 m1 ha hm
def M5 : Nat → Nat
  | 0 => 0
  | k + 1 => 16 * M5 k + 5
def M3 : Nat → Nat
  | 0 => 0
  | k + 1 => 16 * M3 k + 3
def pa (m n : Nat) : Nat := n - (n / 2 &&& m)
def pb (m n : Nat) : Nat := (n &&& m) + (n / 4 &&& m)
theorem d5 : ∀ t, t < 2 → ∀ x, x < 16 → (8 * t + x / 2) &&& 5 = (x / 2) &&& 5 := by decide +kernel
theorem d3 : ∀ t, t < 4 → ∀ x, x < 16 → (4 * t + x / 4) &&& 3 = (x / 4) &&& 3 := by decide +kernel
theorem pa16 {k x y : Nat} (hx : x < 16) : pa (M5 (k + 1)) (16 * y + x) = 16 * pa (M5 k) y + pa 5 x := by
  unfold pa
  rw [show M5 (k + 1) = 16 * M5 k + 5 from rfl, show (16 * y + x) / 2 = 16 * (y / 2) + (8 * (y % 2) + x / 2) by omega, land16 (by omega) (by decide), d5 _ (by omega) x hx]
  have h1 : y / 2 &&& M5 k ≤ y / 2 := Nat.and_le_left
  have h2 : x / 2 &&& 5 ≤ x / 2 := Nat.and_le_left
  omega
theorem pb16 {k x y : Nat} (hx : x < 16) : pb (M3 (k + 1)) (16 * y + x) = 16 * pb (M3 k) y + pb 3 x := by
  unfold pb
  rw [show M3 (k + 1) = 16 * M3 k + 3 from rfl, show (16 * y + x) / 4 = 16 * (y / 4) + (4 * (y % 4) + x / 4) by omega, land16 (by omega) (by decide), land16 (by omega) (by decide), d3 _ (by omega) x hx]
  omega
theorem pa_lt {x : Nat} (hx : x < 16) : pa 5 x < 16 := by unfold pa; omega
def nib (x : Nat) : Nat := pb 3 (pa 5 x)
theorem pq16 {k x y : Nat} (hx : x < 16) : pb (M3 (k + 1)) (pa (M5 (k + 1)) (16 * y + x)) = 16 * pb (M3 k) (pa (M5 k) y) + nib x := by
  rw [pa16 hx, pb16 (pa_lt hx)]; rfl
theorem nib_le : ∀ x, x < 16 → nib x ≤ 4 ∧ nib x = cntB x.testBit 4 := by decide +kernel
theorem tb16 {x y j : Nat} (hx : x < 16) : (16 * y + x).testBit j = if j < 4 then x.testBit j else y.testBit (j - 4) := Nat.testBit_two_pow_mul_add (i := 4) y hx j
theorem pop16 {x y : Nat} (hx : x < 16) : ∀ m, cntB (16 * y + x).testBit (4 + m) = nib x + cntB y.testBit m := by
  intro m
  induction m with
  | zero =>
    rw [(nib_le x hx).2]
    refine cntB_cong fun i hi => ?_
    rw [tb16 hx, if_pos (by omega)]
  | succ m ih =>
    show (if (16 * y + x).testBit (4 + m) = true then cntB (16 * y + x).testBit (4 + m) + 1 else cntB (16 * y + x).testBit (4 + m)) = nib x + (if y.testBit m = true then cntB y.testBit m + 1 else cntB y.testBit m)
    rw [ih, tb16 hx, if_neg (show ¬ 4 + m < 4 by omega), show 4 + m - 4 = m by omega]
    split <;> rfl
theorem n16 (n : Nat) : n = 16 * (n / 16) + n % 16 := by omega
theorem and15 : ∀ a, a < 16 → a &&& 15 = a ∧ a &&& 0 = 0 := by decide +kernel
def pop (n : Nat) : Nat := cntB n.testBit 20
def pbX (n : Nat) : Nat := let a := (n + n / 16) &&& 252645135; let b := a + a / 256; let c := b + b / 65536; c % 64
theorem pbX_5 {a b c d e : Nat} (ha : a ≤ 4) (hb : b ≤ 4) (hc : c ≤ 4) (hd : d ≤ 4) (he : e ≤ 4) : pbX (16 * (16 * (16 * (16 * e + d) + c) + b) + a) = a + b + c + d + e := by
  have h : (16 * (16 * (16 * (16 * e + d) + c) + b) + a + (16 * (16 * (16 * (16 * e + d) + c) + b) + a) / 16) &&& 252645135 = 65536 * e + 256 * (c + d) + (a + b) := by
    rw [show 16 * (16 * (16 * (16 * e + d) + c) + b) + a + (16 * (16 * (16 * (16 * e + d) + c) + b) + a) / 16 = 16 * (16 * (16 * (16 * (16 * 0 + e) + (d + e)) + (c + d)) + (b + c)) + (a + b) by omega,
      show 252645135 = 16 * (16 * (16 * (16 * (16 * 240 + 15) + 0) + 15) + 0) + 15 by decide, land16 (by omega) (by decide), land16 (by omega) (by decide), land16 (by omega) (by decide), land16 (by omega) (by decide), land16 (by omega) (by decide),
      (and15 _ (show a + b < 16 by omega)).1, (and15 _ (show b + c < 16 by omega)).2, (and15 _ (show c + d < 16 by omega)).1, (and15 _ (show d + e < 16 by omega)).2, (and15 _ (show e < 16 by omega)).1, Nat.zero_and]
    omega
  unfold pbX
  rw [h]
  have h1 : (65536 * e + 256 * (c + d) + (a + b)) / 256 = 256 * e + (c + d) := by omega
  have h2 : (65536 * e + 256 * (c + d) + (a + b) + (256 * e + (c + d))) / 65536 = e := by omega
  show (65536 * e + 256 * (c + d) + (a + b) + (65536 * e + 256 * (c + d) + (a + b)) / 256 + (65536 * e + 256 * (c + d) + (a + b) + (65536 * e + 256 * (c + d) + (a + b)) / 256) / 65536) % 64 = _
  rw [h1, h2]
  omega
theorem pop_pb {n : Nat} (hn : n < 2 ^ 20) : pbX (pb 858993459 (pa 1431655765 n)) = pop n := by
  obtain ⟨a, b, c, d, e, ha, hb, hc, hd, he, rfl⟩ : ∃ a b c d e : Nat, a < 16 ∧ b < 16 ∧ c < 16 ∧ d < 16 ∧ e < 16 ∧ n = 16 * (16 * (16 * (16 * e + d) + c) + b) + a := ⟨n % 16, n / 16 % 16, n / 256 % 16, n / 4096 % 16, n / 65536, by omega, by omega, by omega, by omega, by omega, by omega⟩
  have h : pb 858993459 (pa 1431655765 (16 * (16 * (16 * (16 * e + d) + c) + b) + a)) = 16 * (16 * (16 * (16 * nib e + nib d) + nib c) + nib b) + nib a := by
    show pb (M3 8) (pa (M5 8) _) = _
    have h5 : pb (M3 4) (pa (M5 4) (16 * 0 + e)) = 16 * pb (M3 3) (pa (M5 3) 0) + nib e := pq16 he
    rw [show pb (M3 3) (pa (M5 3) 0) = 0 by decide, Nat.mul_zero, Nat.zero_add, Nat.zero_add] at h5
    rw [pq16 ha, pq16 hb, pq16 hc, pq16 hd, h5]
  rw [h, pbX_5 (nib_le a ha).1 (nib_le b hb).1 (nib_le c hc).1 (nib_le d hd).1 (nib_le e he).1]
  have p1 : cntB (16 * (16 * (16 * (16 * e + d) + c) + b) + a).testBit 20 = nib a + cntB (16 * (16 * (16 * e + d) + c) + b).testBit 16 := pop16 (y := 16 * (16 * (16 * e + d) + c) + b) ha 16
  have p2 : cntB (16 * (16 * (16 * e + d) + c) + b).testBit 16 = nib b + cntB (16 * (16 * e + d) + c).testBit 12 := pop16 (y := 16 * (16 * e + d) + c) hb 12
  have p3 : cntB (16 * (16 * e + d) + c).testBit 12 = nib c + cntB (16 * e + d).testBit 8 := pop16 (y := 16 * e + d) hc 8
  have p4 : cntB (16 * (e) + d).testBit 8 = nib d + cntB (e).testBit 4 := pop16 (y := e) hd 4
  have p5 := (nib_le e he).2
  unfold pop
  omega
theorem fb_andI (a b : Nat) : nI a &&& nI b = nI (a &&& b) := by
  apply Int32.toBitVec_inj.mp
  show BitVec.ofNat 32 a &&& BitVec.ofNat 32 b = BitVec.ofNat 32 (a &&& b)
  apply BitVec.eq_of_toNat_eq
  rw [BitVec.toNat_and, BitVec.toNat_ofNat, BitVec.toNat_ofNat, BitVec.toNat_ofNat, Nat.and_mod_two_pow]
theorem us_k (k : Nat) (hk : k < 32) : (((nI k).toUInt32 &&& Int32.toUInt32 31).toBitVec % 32).toNat = k := by
  have : ∀ k, k < 32 → (((nI k).toUInt32 &&& Int32.toUInt32 31).toBitVec % 32).toNat = k := by decide +kernel
  exact this k hk
theorem bcX_nI {n : Nat} (hn : n < 2 ^ 20) : bcX (nI n) = nI (pop n) := by
  have e1 : bc1 (nI n) = nI (pa 1431655765 n) := by
    unfold bc1 pa
    rw [pk_ushrN (by omega) 1 1 (us_k 1 (by decide))]
    show nI n - (nI (n / 2) &&& nI 1431655765) = _
    rw [fb_andI, pk_sub (Nat.le_trans Nat.and_le_left (by omega))]
  have l1 : pa 1431655765 n < 2 ^ 20 := by unfold pa; omega
  have e2 : bc2 (bc1 (nI n)) = nI (pb 858993459 (pa 1431655765 n)) := by
    rw [e1]
    unfold bc2 pb
    rw [pk_ushrN (by omega) 2 2 (us_k 2 (by decide))]
    show (nI _ &&& nI 858993459) + (nI (_ / 4) &&& nI 858993459) = _
    rw [fb_andI, fb_andI, nI_add]
  have l2 : pb 858993459 (pa 1431655765 n) < 2 ^ 21 := by
    unfold pb
    have h1 : pa 1431655765 n &&& 858993459 ≤ pa 1431655765 n := Nat.and_le_left
    have h2 : pa 1431655765 n / 4 &&& 858993459 ≤ pa 1431655765 n / 4 := Nat.and_le_left
    omega
  rw [← pop_pb hn]
  generalize pb 858993459 (pa 1431655765 n) = q at e2 l2
  have e3 : bc3 (bc2 (bc1 (nI n))) = nI ((q + q / 16) &&& 252645135) := by
    rw [e2]
    unfold bc3
    rw [pk_ushrN (by omega) 4 4 (us_k 4 (by decide)), nI_add]
    show nI _ &&& nI 252645135 = _
    rw [fb_andI]
  have l3 : (q + q / 16) &&& 252645135 < 2 ^ 22 := Nat.lt_of_le_of_lt Nat.and_le_left (by omega)
  unfold bcX pbX
  rw [e3]
  generalize (q + q / 16) &&& 252645135 = a at l3
  unfold bc4
  rw [pk_ushrN (by omega) 8 8 (us_k 8 (by decide)), nI_add]
  unfold bc5
  rw [pk_ushrN (by omega) 16 16 (us_k 16 (by decide)), nI_add, pk_andN (by omega) 6 (by decide)]
theorem cntB_add (p : Nat → Bool) (n : Nat) : ∀ m, cntB p (n + m) = cntB p n + cntB (fun i => p (n + i)) m := by
  intro m
  induction m with
  | zero => rfl
  | succ m ih =>
    show cntB p (n + m + 1) = _
    rw [cntB, cntB, ih]
    split <;> omega
theorem blk_row {S : KS} {bl se : Nat → Int32} {c r l w f : Int32} (h : AbsX S bl se c r l w f) {j : Nat} (hj : j < 10) : bcX (bl j) = nI (cntB (fun i => S.1 i j) 20) := by
  obtain ⟨n, hn, e, hb⟩ := h.1 j hj
  rw [e, bcX_nI hn]
  unfold pop
  rw [cntB_cong hb]
theorem blkN_rows (L : Nat → Nat → Bool) : blkN L = cntB (fun i => L i 0) 20 + cntB (fun i => L i 1) 20 + cntB (fun i => L i 2) 20 + cntB (fun i => L i 3) 20 + cntB (fun i => L i 4) 20 + cntB (fun i => L i 5) 20 + cntB (fun i => L i 6) 20 + cntB (fun i => L i 7) 20 + cntB (fun i => L i 8) 20 + cntB (fun i => L i 9) 20 := by
  have h : ∀ j, cntB (fun k => L (k % 20) (k / 20)) (20 * j + 20) = cntB (fun k => L (k % 20) (k / 20)) (20 * j) + cntB (fun i => L i j) 20 := by
    intro j
    rw [cntB_add]
    congr 1
    refine cntB_cong fun i hi => ?_
    show L ((20 * j + i) % 20) ((20 * j + i) / 20) = L i j
    rw [show (20 * j + i) % 20 = i by omega, show (20 * j + i) / 20 = j by omega]
  have h0 := h 0
  have h1 := h 1
  have h2 := h 2
  have h3 := h 3
  have h4 := h 4
  have h5 := h 5
  have h6 := h 6
  have h7 := h 7
  have h8 := h 8
  have h9 := h 9
  have hz : cntB (fun k => L (k % 20) (k / 20)) (20 * 0) = 0 := rfl
  unfold blkN
  simp only [Nat.reduceMul, Nat.reduceAdd] at h0 h1 h2 h3 h4 h5 h6 h7 h8 h9 hz
  omega
theorem blocks_abs {S : KS} {bl se : Nat → Int32} {c r l w f : Int32} (h : AbsX S bl se c r l w f) : blocksX bl = nI (blkN S.1) := by
  unfold blocksX
  rw [blk_row h (by decide : 0 < 10), blk_row h (by decide : 1 < 10), blk_row h (by decide : 2 < 10), blk_row h (by decide : 3 < 10), blk_row h (by decide : 4 < 10), blk_row h (by decide : 5 < 10), blk_row h (by decide : 6 < 10), blk_row h (by decide : 7 < 10), blk_row h (by decide : 8 < 10), blk_row h (by decide : 9 < 10), blkN_rows]
  show nI 0 + _ + _ + _ + _ + _ + _ + _ + _ + _ + _ = _
  rw [nI_add, nI_add, nI_add, nI_add, nI_add, nI_add, nI_add, nI_add, nI_add, nI_add]
  congr 1
  omega
