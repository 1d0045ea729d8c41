/-! what is asked of a level, told once for both -/
noncomputable def RC (B : Int32 → Int32 → Bool) (a f s : Int32) (k : Nat) : Nat → Nat → Bool := fun x y => @decide (∃ u, u ≤ k ∧ EvA B a f s 200 (100 * x + y) u) (Classical.propDecidable _)
theorem dec_t {p : Prop} (h : p) : @decide p (Classical.propDecidable _) = true := @decide_eq_true p (Classical.propDecidable _) h
theorem dec_f {p : Prop} (h : ¬ p) : @decide p (Classical.propDecidable _) = false := @decide_eq_false p (Classical.propDecidable _) h
theorem comeF_RC {B : Int32 → Int32 → Bool} {a f s : Int32} {lr : Nat → Int32} (h : InvN (-1) 10000 lr (EvA B a f s 200)) {k x y : Nat} (hk : k ≤ 3) (hx : x < 100) (hy : y < 100) : comeF lr x y (nI k) = RC B a f s k x y := by
  unfold comeF RC
  rcases h (100 * x + y) (by omega) with ⟨h1, h2⟩ | ⟨u, h1, h2, h3, h4⟩
  · rw [if_pos h1, dec_f]
    rintro ⟨u, -, hu⟩
    exact h2 u hu
  · rw [if_neg (by rw [h3]; exact nI_ne_m1 (by omega)), h3]
    by_cases q : k < u
    · rw [if_pos ((nI_ltI (by omega) (by omega)).mpr q), dec_f]
      rintro ⟨v, hv, hE⟩
      have := h4 v hE
      omega
    · rw [if_neg (fun z => q ((nI_ltI (by omega) (by omega)).mp z)), dec_t]
      exact ⟨u, by omega, h2⟩
theorem Pa.cong {R R' : Nat → Nat → Bool} {n : Nat} (h : ∀ x y, x < n → y < n → R x y = R' x y) : ∀ {d a c : Nat}, a < n → c < n → (Pa R n d a c ↔ Pa R' n d a c) := by
  intro d
  induction d with
  | zero => intro a c _ _; exact Iff.rfl
  | succ d ih =>
    intro a c ha hc
    constructor
    · rintro ⟨v, hv, h1, h2⟩
      exact ⟨v, hv, (ih ha hv).mp h1, by rw [← h v c hv hc]; exact h2⟩
    · rintro ⟨v, hv, h1, h2⟩
      exact ⟨v, hv, (ih ha hv).mpr h1, by rw [h v c hv hc]; exact h2⟩
theorem IsD.cong {R R' : Nat → Nat → Bool} {n a c : Nat} {x : Int32} (h : ∀ x y, x < n → y < n → R x y = R' x y) (ha : a < n) (hc : c < n) (hx : IsD R n a c x) : IsD R' n a c x := by
  rcases hx with ⟨d, h1, h2, h3, h4⟩ | ⟨h1, h2⟩
  · exact Or.inl ⟨d, h1, h2, (Pa.cong h ha hc).mp h3, fun e he q => h4 e he ((Pa.cong h ha hc).mpr q)⟩
  · exact Or.inr ⟨h1, fun e q => h2 e ((Pa.cong h ha hc).mpr q)⟩
noncomputable def dV (R : Nat → Nat → Bool) (n o b : Nat) : Int32 := @dite Int32 (∃ x, IsD R n o b x) (Classical.propDecidable _) (fun h => Classical.choose h) (fun _ => -1)
theorem IsD.toV {R : Nat → Nat → Bool} {n o b : Nat} {x : Int32} (h : IsD R n o b x) : x = dV R n o b := by
  have hx : ∃ x, IsD R n o b x := ⟨x, h⟩
  unfold dV
  rw [dif_pos hx]
  exact h.one (Classical.choose_spec hx)
theorem cntB_cong {p q : Nat → Bool} : ∀ {n : Nat}, (∀ i, i < n → p i = q i) → cntB p n = cntB q n := by
  intro n
  induction n with
  | zero => intro _; rfl
  | succ n ih =>
    intro h
    rw [cntB, cntB, ih (fun i hi => h i (by omega)), h n (Nat.lt_succ_self n)]
theorem onlyF_cong {p q : Nat → Bool} {rk : Int32} : ∀ {m i b : Nat}, (∀ j, j < i + m → p j = q j) → onlyF p rk m i b = onlyF q rk m i b := by
  intro m
  induction m with
  | zero => intro i b _; rfl
  | succ m ih =>
    intro i b h
    rw [onlyF, onlyF, h i (by omega), ih (fun j hj => h j (by omega)), ih (fun j hj => h j (by omega))]
abbrev nS (S : KS) : Nat := nL (Bk S.1)
def owS (S : KS) : Nat := lgN (SB (Bk S.1)) (20 * S.2.2.1.2 + S.2.2.1.1)
noncomputable def RS (S : KS) (k : Nat) : Nat → Nat → Bool := RC (Bk S.1) S.2.1.1 S.2.1.2.1 S.2.1.2.2 k
noncomputable def dS (S : KS) (k o b : Nat) : Int32 := dV (RS S k) (nS S) o b
noncomputable def rcS (S : KS) (k b : Nat) : Bool := !decide (dS S k (owS S) b = -1)
def cellS (S : KS) (c r k : Nat) : Int32 := match k with
  | 0 => bI (Bk S.1 (nI c) (nI r))
  | 1 => bI (stB (Bk S.1) (nI c) (nI r))
  | 2 => lgF (SB (Bk S.1)) (20 * r + c)
  | 3 => grB (Bk S.1) (nI c) (nI r) 1
  | _ => grB (Bk S.1) (nI c) (nI r) (-1)
noncomputable def ledgeS (S : KS) (a k : Nat) : Int32 := match k with
  | 0 => rowM (Bk S.1) a
  | 1 => colM (Bk S.1) a
  | 2 => lenM (Bk S.1) a
  | 3 => nI (cntB (fun to => !decide (to = a) && RS S 3 a to) (nS S))
  | 4 => nI (cntB (fun to => !decide (to = a) && RS S 0 a to) (nS S))
  | _ => nI (cntB (fun fr => !decide (fr = a) && RS S 3 fr a) (nS S))
def blkN (L : Nat → Nat → Bool) : Nat := cntB (fun k => L (k % 20) (k / 20)) 200
noncomputable def countS (S : KS) (hn k : Nat) : Int32 := match k with
  | 0 => nI (blkN S.1)
  | 1 => nI (nS S)
  | 2 => nI S.2.2.1.1
  | 3 => nI S.2.2.1.2
  | 4 => nI (owS S)
  | 5 => S.2.2.2.1
  | 6 => S.2.2.2.2.1
  | 7 => S.2.2.2.2.2
  | 8 => nI (nS S) - nI (cntB (rcS S 3) (nS S))
  | _ => nI hn
def leapS (S : KS) (c r : Nat) (d : Int32) (u k : Nat) : Int32 := if grB (Bk S.1) (nI c) (nI r) d < nI u then -1 else leapF (flyR (Bk S.1) S.2.1.1 S.2.1.2.1 S.2.1.2.2 d c r u) k
def arcS (S : KS) (t : Nat) : Int32 := 200 + haoF (nI t) S.2.1.1 S.2.1.2.1
noncomputable def onlyS (S : KS) (rk : Int32) : Int32 := onlyF (fun b => rcS S 3 b && !rcS S 0 b) rk (nS S) 0 0
def setS (S : KS) (k : Nat) : Int32 := match k with
  | 0 => S.2.1.1
  | 1 => S.2.1.2.1
  | _ => S.2.1.2.2
def putSet (S : KS) (k : Nat) (v : Int32) : KS := match k with
  | 0 => (S.1, (v, S.2.1.2.1, S.2.1.2.2), S.2.2)
  | 1 => (S.1, (S.2.1.1, v, S.2.1.2.2), S.2.2)
  | _ => (S.1, (S.2.1.1, S.2.1.2.1, v), S.2.2)
theorem owS_lt {S : KS} (h : Wf S) : owS S < nS S ∧ owS S < 100 := by
  have h1 : SB (Bk S.1) (20 * S.2.2.1.2 + S.2.2.1.1) = true := by rw [SB_rc h.2.1]; exact h.2.2.2
  exact lgN_lt (by have := h.2.1; have := h.2.2.1; omega) h1
theorem la_own {S : KS} {bl se lo : Nat → Int32} {c r l w f : Int32} (hA : AbsX S bl se c r l w f) (h : Wf S) (hlo : ∀ i, i < 200 → lo i = lgF (SB (blkX bl)) i) : laX lo c r = nI (owS S) := by
  rw [blk_abs hA] at hlo
  rw [hA.at_c, hA.at_r]
  have h1 : SB (Bk S.1) (20 * S.2.2.1.2 + S.2.2.1.1) = true := by rw [SB_rc h.2.1]; exact h.2.2.2
  exact laX_S hlo h.2.1 h.2.2.1 h1
theorem Rk_RS {S : KS} {bl se lr : Nat → Int32} {c r l w f rs : Int32} (hA : AbsX S bl se c r l w f) (h : RchOK (blkX bl) (se 0) (se 1) (se 2) rs lr) {k : Nat} (hk : k ≤ 3) : ∀ x y, x < 100 → y < 100 → Rk lr k x y = RS S k x y := by
  intro x y hx hy
  have h2 := h.2
  rw [blk_abs hA, hA.2.1.1, hA.2.1.2.1, hA.2.1.2.2] at h2
  exact comeF_RC h2 hk hx hy
theorem d_RS {S : KS} {bl se lr : Nat → Int32} {c r l w f rs x : Int32} {o b k : Nat} (hA : AbsX S bl se c r l w f) (h : RchOK (blkX bl) (se 0) (se 1) (se 2) rs lr) (hk : k ≤ 3) (ho : o < nL (blkX bl)) (hb : b < nL (blkX bl)) (hd : IsD (Rk lr k) (nL (blkX bl)) o b x) : x = dS S k o b := by
  have hn := nL_le (blkX bl)
  have h1 := (IsD.cong (fun x y hx hy => Rk_RS hA h hk x y (by omega) (by omega)) ho hb hd).toV
  rw [blk_abs hA] at h1
  exact h1
theorem rch_RS {S : KS} {bl se lr og sp : Nat → Int32} {c r l w f rs : Int32} {k : Nat} (hA : AbsX S bl se c r l w f) (hw : Wf S) (h : RchOK (blkX bl) (se 0) (se 1) (se 2) rs lr) (hk : k ≤ 3) (hrt : RtOK lr (nL (blkX bl)) og sp) (ho : og k = nI (owS S)) : ∀ b, b < nL (blkX bl) → sp (100 * k + b) = dS S k (owS S) b ∧ rchB sp k b = rcS S k b := by
  intro b hb
  have h0 : owS S < nL (blkX bl) := by rw [blk_abs hA]; exact (owS_lt hw).1
  have h1 := d_RS hA h hk h0 hb (hrt k (by omega) _ h0 ho b hb)
  refine ⟨h1, ?_⟩
  unfold rchB rcS
  rw [h1]
/-- the hash -/
def mxL (h v : Int64) : Int64 := 31 * h + v
def hI (g : Nat → Int64 → Int64) : Nat → Int64 → Int64
  | 0, h => h
  | n + 1, h => g n (hI g n h)
theorem hI_cong {g g' : Nat → Int64 → Int64} : ∀ {n : Nat} {h : Int64}, (∀ k h, k < n → g k h = g' k h) → hI g n h = hI g' n h := by
  intro n
  induction n with
  | zero => intro h _; rfl
  | succ n ih => intro h e; rw [hI, hI, ih (fun k h hk => e k h (by omega)), e n _ (Nat.lt_succ_self n)]
theorem hI_add {g : Nat → Int64 → Int64} (n : Nat) : ∀ (m : Nat) (h : Int64), hI g (n + m) h = hI (fun k h => g (n + k) h) m (hI g n h) := by
  intro m
  induction m with
  | zero => intro h; rfl
  | succ m ih => intro h; show g (n + m) (hI g (n + m) h) = _; rw [ih]; rfl
theorem hI_flat {g : Nat → Int64 → Int64} {m : Nat} (hm : 0 < m) : ∀ (n : Nat) (h : Int64), hI (fun r h => hI (fun c h => g (m * r + c) h) m h) n h = hI g (m * n) h := by
  intro n
  induction n with
  | zero => intro h; rfl
  | succ n ih => intro h; rw [hI, ih, Nat.mul_succ, hI_add]
def hL (f : Nat → Int64) : Nat → Int64 → Int64 := hI (fun k h => mxL h (f k))
abbrev mxI (h : Int64) (v : Int32) : Int64 := mxL h v.toInt64
