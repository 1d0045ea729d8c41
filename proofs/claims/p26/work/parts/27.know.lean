/-! what is found of a level, and kept -/
theorem scA_ind {S : Nat → Bool} {v f g : Nat → Int32} : ∀ i k, k < cnt S i → scA S v f i k = scA S v g i k := by
  intro i
  induction i with
  | zero => intro k h; exact absurd h (Nat.not_lt_zero _)
  | succ i ih =>
    intro k h
    by_cases q : stt S i = true
    · rw [cnt, if_pos q] at h
      rw [scA, scA, if_pos q, if_pos q]
      by_cases z : k = cnt S i
      · subst z; rw [pk_us, pk_us]
      · rw [pk_un z, pk_un z]; exact ih k (by omega)
    · rw [cnt, if_neg q] at h
      rw [scA, scA, if_neg q, if_neg q]; exact ih k h
theorem leA_ind {S : Nat → Bool} {f g : Nat → Int32} : ∀ i k, k < cnt S i → leA S f i k = leA S g i k := by
  intro i
  induction i with
  | zero => intro k h; exact absurd h (Nat.not_lt_zero _)
  | succ i ih =>
    intro k h
    by_cases q : stt S i = true
    · rw [cnt, if_pos q] at h
      rw [leA, leA, if_pos q, if_pos q]
      by_cases z : k = cnt S i
      · subst z; rw [pk_us, pk_us]
      · rw [pk_un z, pk_un z]; exact ih k (by omega)
    · rw [cnt, if_neg q] at h
      rw [leA, leA, if_neg q, if_neg q]
      by_cases q2 : S i = true
      · rw [if_pos q2, if_pos q2]
        have h1 := (cnt_pos q2 (not_t q)).1
        by_cases z : k = cnt S i - 1
        · subst z; rw [pk_us, pk_us, ih _ (by omega)]
        · rw [pk_un z, pk_un z]; exact ih k h
      · rw [if_neg q2, if_neg q2]; exact ih k h
theorem loA_get {S : Nat → Bool} {f : Nat → Int32} : ∀ i k, k < i → loA S f i k = lgF S k := by
  intro i
  induction i with
  | zero => intro k h; exact absurd h (Nat.not_lt_zero _)
  | succ i ih =>
    intro k h
    rw [loA]
    by_cases z : k = i
    · subst z; exact pk_us
    · rw [pk_un z]; exact ih k (by omega)
abbrev nL (B : Int32 → Int32 → Bool) : Nat := cnt (SB B) 200
theorem nL_le (B : Int32 → Int32 → Bool) : nL B ≤ 100 := cnt_le (Nat.le_refl _)
def rowM (B : Int32 → Int32 → Bool) : Nat → Int32 := scA (SB B) (fun j => nI (j / 20)) (fun _ => 0) 200
def colM (B : Int32 → Int32 → Bool) : Nat → Int32 := scA (SB B) (fun j => nI (j % 20)) (fun _ => 0) 200
def lenM (B : Int32 → Int32 → Bool) : Nat → Int32 := leA (SB B) (fun _ => 0) 200
def MapOK (B : Int32 → Int32 → Bool) (ms : Int32) (ro fi le lo : Nat → Int32) : Prop := ms = nI (nL B) ∧ (∀ i, i < 200 → lo i = lgF (SB B) i) ∧ ∀ k, k < nL B → ro k = rowM B k ∧ fi k = colM B k ∧ le k = lenM B k
theorem MapOK.of (B : Int32 → Int32 → Bool) (ro fi le lo : Nat → Int32) : MapOK B (nI (nL B)) (scA (SB B) (fun j => nI (j / 20)) ro 200) (scA (SB B) (fun j => nI (j % 20)) fi 200) (leA (SB B) le 200) (loA (SB B) lo 200) :=
  ⟨rfl, fun i hi => loA_get 200 i hi, fun k hk => ⟨scA_ind 200 k hk, scA_ind 200 k hk, leA_ind 200 k hk⟩⟩
def RchOK (B : Int32 → Int32 → Bool) (a f s rs : Int32) (lr : Nat → Int32) : Prop := rs = nI (nL B) ∧ InvN (-1) 10000 lr (EvA B a f s 200)
def TbOK (lr : Nat → Int32) (n : Nat) (rt : Int32) (ta : Nat → Int32) : Prop := ∀ k, k < 4 → rt = nI k → ∀ a c, a < n → c < n → En (Rk lr k) n a c (ta (100 * a + c))
def RtsOK (n : Nat) (lr og sp : Nat → Int32) (rt : Int32) (ta : Nat → Int32) : Prop := RtOK lr n og sp ∧ TbOK lr n rt ta
theorem RtsOK.none (n : Nat) (hn : n < 1000) (lr og sp ta : Nat → Int32) : RtsOK n lr (fillX (-1) og 4) sp (-1) ta := by
  refine ⟨fun k hk o ho h => ?_, fun k hk h => ?_⟩
  · unfold fillX at h
    rw [if_pos hk] at h
    exact absurd h.symm (nI_m1 (by omega))
  · exact absurd h.symm (nI_ne_m1 (by omega))
def CachK (B : Int32 → Int32 → Bool) (a f s : Int32) (mk rk : Bool) (ms : Int32) (ro fi le lo : Nat → Int32) (rs : Int32) (lr og sp : Nat → Int32) (rt : Int32) (ta : Nat → Int32) : Prop :=
  (mk = true → MapOK B ms ro fi le lo) ∧ (rk = true → mk = true ∧ RchOK B a f s rs lr ∧ RtsOK (nL B) lr og sp rt ta)
def rchB (sp : Nat → Int32) (k b : Nat) : Bool := !decide (sp (100 * k + b) = -1)
def onlyF (p : Nat → Bool) (rk : Int32) : Nat → Nat → Nat → Int32
  | 0, _, _ => -1
  | m + 1, i, b => if p i = true then (if nI b = rk then nI i else onlyF p rk m (i + 1) (b + 1)) else onlyF p rk m (i + 1) b
def cellF (B : Int32 → Int32 → Bool) (lo : Nat → Int32) (x y : Int32) (k : Nat) : Int32 := match k with
  | 0 => bI (B x y)
  | 1 => bI (stB B x y)
  | 2 => laX lo x y
  | 3 => grB B x y 1
  | _ => grB B x y (-1)
def ledgeF (ro fi le lr : Nat → Int32) (n a k : Nat) : Int32 := match k with
  | 0 => ro a
  | 1 => fi a
  | 2 => le a
  | 3 => nI (cntB (fun to => !decide (to = a) && comeF lr a to 3) n)
  | 4 => nI (cntB (fun to => !decide (to = a) && comeF lr a to 0) n)
  | _ => nI (cntB (fun fr => !decide (fr = a) && comeF lr fr a 3) n)
def blocksX (bl : Nat → Int32) : Int32 := 0 + bcX (bl 0) + bcX (bl 1) + bcX (bl 2) + bcX (bl 3) + bcX (bl 4) + bcX (bl 5) + bcX (bl 6) + bcX (bl 7) + bcX (bl 8) + bcX (bl 9)
def countF (bl lo sp : Nat → Int32) (n : Nat) (c r l w f hn : Int32) (k : Nat) : Int32 := match k with
  | 0 => blocksX bl
  | 1 => nI n
  | 2 => c
  | 3 => r
  | 4 => laX lo c r
  | 5 => l
  | 6 => w
  | 7 => f
  | 8 => nI n - nI (cntB (rchB sp 3) n)
  | _ => hn
def leapF (u : FS) (k : Nat) : Int32 := match k with
  | 0 => u.1
  | 1 => u.2.1
  | 2 => u.2.2.1
  | 3 => u.2.2.2.1
  | _ => bI u.2.2.2.2.1
def hbtF (fa : Int32) : Nat → Int32 → Int32 → Int32
  | 0, _, h => h
  | n + 1, ri, h => hbtF fa n (max2 (ri - 1) (-fa)) (h + ri)
def haoF (t a f : Int32) : Int32 := min2 t (a + f) * a - min2 t (a + f) * (min2 t (a + f) - 1) / 2 - (t - min2 t (a + f)) * f
theorem comeF_eq (lr : Nat → Int32) (a b : Nat) : comeF lr a b 3 = Rk lr 3 a b ∧ comeF lr a b 0 = Rk lr 0 a b := ⟨rfl, rfl⟩
theorem share_n : ∀ b, b < 101 → 1 ≤ b → ∀ a, a < 101 → (FP.ddiv (FP.i2d (nI a)) (FP.i2d (nI b)) &&& 0x7fffffffffffffff ≤ 0x7ff0000000000000) := by decide +kernel
theorem share_nn {a b : Nat} (h1 : 1 ≤ b) (hb : b ≤ 100) (ha : a ≤ b) : vf_n64 (FP.ddiv (FP.i2d (nI a)) (FP.i2d (nI b))) := share_n b (by omega) h1 a (by omega)
