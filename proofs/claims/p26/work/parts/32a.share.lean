/-! the bits of a share -/
abbrev dTwo : UInt64 := 4611686018427387904
abbrev dBig : UInt64 := 4841369599423283200
def nnD (r : UInt64) : Bool := decide (r &&& 0x7fffffffffffffff ≤ 0x7ff0000000000000)
theorem nnD_t {r : UInt64} (h : nnD r = true) : vf_n64 r := by
  have h := of_decide_eq_true h
  exact h
def ge1 (d : UInt64) : Bool := decide ((0 : Int32) ≤ Op.cmpValue (FP.dcmp d FP.dconst1) .g)
def bosOK : Nat → UInt64 → Bool
  | 0, _ => false
  | n + 1, d => if ge1 d = true then nnD (FP.dsub d FP.dconst1) && nnD (FP.dmul (FP.dsub d FP.dconst1) dBig) else nnD (FP.dmul d dTwo) && bosOK n (FP.dmul d dTwo)
def bosF : Nat → UInt64 → Int64 → UInt64 × Int64
  | 0, d, e => (d, e)
  | n + 1, d, e => if ge1 d = true then (d, e) else bosF n (FP.dmul d dTwo) (e - 1)
def bosV (x : UInt64) : Int64 := ((bosF 10 x 1023).2 <<< ((52 : Int32).toInt64 &&& 63)) + FP.d2l (FP.dmul (FP.dsub (bosF 10 x 1023).1 FP.dconst1) dBig)
def bosW (x : UInt64) : Int64 := (bosF 10 x 1023).2 * 4503599627370496 + FP.d2l (FP.dmul (FP.dsub (bosF 10 x 1023).1 FP.dconst1) dBig)
def shareD (a b : Nat) : UInt64 := FP.ddiv (FP.i2d (nI a)) (FP.i2d (nI b))
def shOK (x : UInt64) : Bool := decide ((0 : Int32) < Op.cmpValue (FP.dcmp x FP.dconst0) .l) && bosOK 10 x
theorem bos_shl (e : Int64) : e <<< ((52 : Int32).toInt64 &&& 63) = e * 4503599627370496 := by
  apply Int64.toBitVec_inj.mp
  rw [Int64.toBitVec_shiftLeft, Int64.toBitVec_mul]
  show e.toBitVec <<< (52 : Nat) = e.toBitVec * BitVec.ofNat 64 4503599627370496
  rw [BitVec.shiftLeft_eq_mul_twoPow]
  rfl
theorem bosV_W (x : UInt64) : bosV x = bosW x := by unfold bosV bosW; rw [bos_shl]
theorem share_tab_1 : ∀ a, a < 2 → 1 ≤ a → shOK (shareD a 1) = true := by decide +kernel
theorem share_tab_2 : ∀ a, a < 3 → 1 ≤ a → shOK (shareD a 2) = true := by decide +kernel
theorem share_tab_3 : ∀ a, a < 4 → 1 ≤ a → shOK (shareD a 3) = true := by decide +kernel
theorem share_tab_4 : ∀ a, a < 5 → 1 ≤ a → shOK (shareD a 4) = true := by decide +kernel
theorem share_tab_5 : ∀ a, a < 6 → 1 ≤ a → shOK (shareD a 5) = true := by decide +kernel
theorem share_tab_6 : ∀ a, a < 7 → 1 ≤ a → shOK (shareD a 6) = true := by decide +kernel
theorem share_tab_7 : ∀ a, a < 8 → 1 ≤ a → shOK (shareD a 7) = true := by decide +kernel
theorem share_tab_8 : ∀ a, a < 9 → 1 ≤ a → shOK (shareD a 8) = true := by decide +kernel
theorem share_tab_9 : ∀ a, a < 10 → 1 ≤ a → shOK (shareD a 9) = true := by decide +kernel
theorem share_tab_10 : ∀ a, a < 11 → 1 ≤ a → shOK (shareD a 10) = true := by decide +kernel
theorem share_tab_11 : ∀ a, a < 12 → 1 ≤ a → shOK (shareD a 11) = true := by decide +kernel
theorem share_tab_12 : ∀ a, a < 13 → 1 ≤ a → shOK (shareD a 12) = true := by decide +kernel
theorem share_tab_13 : ∀ a, a < 14 → 1 ≤ a → shOK (shareD a 13) = true := by decide +kernel
theorem share_tab_14 : ∀ a, a < 15 → 1 ≤ a → shOK (shareD a 14) = true := by decide +kernel
theorem share_tab_15 : ∀ a, a < 16 → 1 ≤ a → shOK (shareD a 15) = true := by decide +kernel
theorem share_tab_16 : ∀ a, a < 17 → 1 ≤ a → shOK (shareD a 16) = true := by decide +kernel
theorem share_tab_17 : ∀ a, a < 18 → 1 ≤ a → shOK (shareD a 17) = true := by decide +kernel
theorem share_tab_18 : ∀ a, a < 19 → 1 ≤ a → shOK (shareD a 18) = true := by decide +kernel
theorem share_tab_19 : ∀ a, a < 20 → 1 ≤ a → shOK (shareD a 19) = true := by decide +kernel
theorem share_tab_20 : ∀ a, a < 21 → 1 ≤ a → shOK (shareD a 20) = true := by decide +kernel
theorem share_tab_21 : ∀ a, a < 22 → 1 ≤ a → shOK (shareD a 21) = true := by decide +kernel
theorem share_tab_22 : ∀ a, a < 23 → 1 ≤ a → shOK (shareD a 22) = true := by decide +kernel
theorem share_tab_23 : ∀ a, a < 24 → 1 ≤ a → shOK (shareD a 23) = true := by decide +kernel
theorem share_tab_24 : ∀ a, a < 25 → 1 ≤ a → shOK (shareD a 24) = true := by decide +kernel
theorem share_tab_25 : ∀ a, a < 26 → 1 ≤ a → shOK (shareD a 25) = true := by decide +kernel
theorem share_tab_26 : ∀ a, a < 27 → 1 ≤ a → shOK (shareD a 26) = true := by decide +kernel
theorem share_tab_27 : ∀ a, a < 28 → 1 ≤ a → shOK (shareD a 27) = true := by decide +kernel
theorem share_tab_28 : ∀ a, a < 29 → 1 ≤ a → shOK (shareD a 28) = true := by decide +kernel
theorem share_tab_29 : ∀ a, a < 30 → 1 ≤ a → shOK (shareD a 29) = true := by decide +kernel
theorem share_tab_30 : ∀ a, a < 31 → 1 ≤ a → shOK (shareD a 30) = true := by decide +kernel
theorem share_tab_31 : ∀ a, a < 32 → 1 ≤ a → shOK (shareD a 31) = true := by decide +kernel
theorem share_tab_32 : ∀ a, a < 33 → 1 ≤ a → shOK (shareD a 32) = true := by decide +kernel
theorem share_tab_33 : ∀ a, a < 34 → 1 ≤ a → shOK (shareD a 33) = true := by decide +kernel
theorem share_tab_34 : ∀ a, a < 35 → 1 ≤ a → shOK (shareD a 34) = true := by decide +kernel
theorem share_tab_35 : ∀ a, a < 36 → 1 ≤ a → shOK (shareD a 35) = true := by decide +kernel
theorem share_tab_36 : ∀ a, a < 37 → 1 ≤ a → shOK (shareD a 36) = true := by decide +kernel
theorem share_tab_37 : ∀ a, a < 38 → 1 ≤ a → shOK (shareD a 37) = true := by decide +kernel
theorem share_tab_38 : ∀ a, a < 39 → 1 ≤ a → shOK (shareD a 38) = true := by decide +kernel
theorem share_tab_39 : ∀ a, a < 40 → 1 ≤ a → shOK (shareD a 39) = true := by decide +kernel
theorem share_tab_40 : ∀ a, a < 41 → 1 ≤ a → shOK (shareD a 40) = true := by decide +kernel
theorem share_tab_41 : ∀ a, a < 42 → 1 ≤ a → shOK (shareD a 41) = true := by decide +kernel
theorem share_tab_42 : ∀ a, a < 43 → 1 ≤ a → shOK (shareD a 42) = true := by decide +kernel
theorem share_tab_43 : ∀ a, a < 44 → 1 ≤ a → shOK (shareD a 43) = true := by decide +kernel
theorem share_tab_44 : ∀ a, a < 45 → 1 ≤ a → shOK (shareD a 44) = true := by decide +kernel
theorem share_tab_45 : ∀ a, a < 46 → 1 ≤ a → shOK (shareD a 45) = true := by decide +kernel
theorem share_tab_46 : ∀ a, a < 47 → 1 ≤ a → shOK (shareD a 46) = true := by decide +kernel
theorem share_tab_47 : ∀ a, a < 48 → 1 ≤ a → shOK (shareD a 47) = true := by decide +kernel
theorem share_tab_48 : ∀ a, a < 49 → 1 ≤ a → shOK (shareD a 48) = true := by decide +kernel
theorem share_tab_49 : ∀ a, a < 50 → 1 ≤ a → shOK (shareD a 49) = true := by decide +kernel
theorem share_tab_50 : ∀ a, a < 51 → 1 ≤ a → shOK (shareD a 50) = true := by decide +kernel
theorem share_tab_51 : ∀ a, a < 52 → 1 ≤ a → shOK (shareD a 51) = true := by decide +kernel
theorem share_tab_52 : ∀ a, a < 53 → 1 ≤ a → shOK (shareD a 52) = true := by decide +kernel
theorem share_tab_53 : ∀ a, a < 54 → 1 ≤ a → shOK (shareD a 53) = true := by decide +kernel
theorem share_tab_54 : ∀ a, a < 55 → 1 ≤ a → shOK (shareD a 54) = true := by decide +kernel
theorem share_tab_55 : ∀ a, a < 56 → 1 ≤ a → shOK (shareD a 55) = true := by decide +kernel
