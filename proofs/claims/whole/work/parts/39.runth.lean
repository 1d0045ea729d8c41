/-! a static table; orders one behind another -/
def gvI (j : Nat) : Int32 := if j = 0 then 4 else 5
def wt (t0 : Nat) (D : va_G) (ty : List (ClassId × FieldType)) (A : Nat → Prop) (ws : va_W) (U : State) : Prop := wd D ty A ws U ∧ va_T .int t0 3 (fun j => .int (gvI j)) A U U.heap
def wy (t0 : Nat) (D : va_G) (ty : List (ClassId × FieldType)) (A : Nat → Prop) (ws : va_W) (U : State) : Prop := wx D ty A ws U ∧ va_Z RX8 "GREATEST_VALUES" "[I" (.ref t0) A U U.heap ∧ va_T .int t0 3 (fun j => .int (gvI j)) A U U.heap
theorem wt_blind {t0 : Nat} {D : va_G} {ty : List (ClassId × FieldType)} {A : Nat → Prop} {ws : va_W} {av : List Value} : FrameBlind (va_Pc av (wt t0 D ty A ws)) := fun a U g mk q => ⟨q.1, (wd_blind (av := av) a U g mk ⟨q.1, q.2.1⟩).2, va_T.moved (u := U) (U := U.calling g mk a) (Vm.Alike.refl U.vm) q.2.2⟩
theorem wy_blind {t0 : Nat} {D : va_G} {ty : List (ClassId × FieldType)} {A : Nat → Prop} {ws : va_W} {av : List Value} : FrameBlind (va_Pc av (wy t0 D ty A ws)) := fun a U g mk q => ⟨q.1, (wx_blind (av := av) a U g mk ⟨q.1, q.2.1⟩).2, va_Z.moved (u := U) (U := U.calling g mk a) (Vm.Alike.refl U.vm) q.2.2.1, va_T.moved (u := U) (U := U.calling g mk a) (Vm.Alike.refl U.vm) q.2.2.2⟩
section Stat39
variable {p : Program} {l : Launch} {e : Env} {R : Room} {s : State} {m : MethodId} {args : Array Value} {below : List Frame} {meth : Method} {c : Code} {H : Heap} {locs : List Loc} {cells slots : Nat} {Q : State → Prop}
variable {cc : ByteArray} {pc : Nat} {ls : Array Slot} {rest st0 : List Value}
variable {y : MethodName} {bytes : ByteArray} {maxL nL mc ms n index : Nat} {ret : Option FieldType} {wsy : List Cond} {rm : Room} {Ts : List Cond} {own C host : String} {b : Addr} {As : List Value} {D : va_G} {ty : List (ClassId × FieldType)} {A : Nat → Prop} {w wc : va_W}
theorem cST_i {S : Type} {post : Int32 → S → Prop} {wc' : S → va_W} {t0 : Nat} (hT : va_T .int t0 3 (fun j => .int (gvI j)) A s s.heap) (CF : CallFix p m c cc nL s args Ts own) (hK : va_K D vwCl ty s) (hN : NS s) (hA : ∀ q : Nat, s.heap.size ≤ q → A q) (hS : va_S A s.heap H locs) (hC : cutw D A w wc H)
    (hM : Met l y wsy rm (va_Pc As (wt t0 D ty A wc)) (va_Qi post (fun u t => wq D A (wc' u) t) A) mc ms A) (cw : CallB R s args own index y bytes maxL ret wsy rm mc ms n ∧ (Cond.static y).before args s = true)
    (hn : As.length = n) (hsize : ls.size = nL) (hstack : st0 = As.reverse ++ rest) (hW : (rest.map fun v => v.category).sum ≤ 8) (hdg : decode cc pc = .ok (.invokestatic index, 3)) (hf : cells + mc ≤ R.cells ∧ slots + ms ≤ R.slots)
    (kk : ∀ (r : Int32) (u : S) (H1 : Heap) (locs1 : List Loc), post r u → va_P D vwCl (wc' u) H1 → va_D A (wc' u) → va_S A s.heap H1 locs1 → W p l e R s m args below meth c H1 locs1 (cells + mc) (slots + ms) Q (F0 m (pc + 3) ls (.int r :: rest))) : W p l e R s m args below meth c H locs cells slots Q (F0 m pc ls st0) :=
  va_calli (va_runS (g := F0 m pc ls st0) CF hM cw ⟨wt_blind, fun U hU hW2 => ⟨rfl, wd_of hK hN hA hC.1 hC.2 hS hU hW2, by rw [hU]; exact (va_T.moved hW2.alike hT).kept hS.2.1⟩⟩ rfl hn hsize hstack (lv_room hW) hdg hf) hS (fun _ _ h => h) (fun _ h => h)
    (fun r u t H1 locs1 ht _ hp hB _ _ hS1 => kk r u H1 locs1 hp (ht ▸ hB.1) hB.2 hS1)
end Stat39
theorem AbsX.set {S : KS} {bl se : Nat → Int32} {c r l w f : Int32} (h : AbsX S bl se c r l w f) {k : Nat} (hk : k < 3) (v : Int32) : AbsX (putSet S k v) bl (upd se k v) c r l w f := by
  obtain ⟨h1, ⟨a1, a2, a3⟩, h3⟩ := h
  rcases (show k = 0 ∨ k = 1 ∨ k = 2 by omega) with rfl | rfl | rfl
  · exact ⟨h1, ⟨pk_us, (pk_un (by decide)).trans a2, (pk_un (by decide)).trans a3⟩, h3⟩
  · exact ⟨h1, ⟨(pk_un (by decide)).trans a1, pk_us, (pk_un (by decide)).trans a3⟩, h3⟩
  · exact ⟨h1, ⟨(pk_un (by decide)).trans a1, (pk_un (by decide)).trans a2, pk_us⟩, h3⟩
theorem Wf_set {S : KS} (h : Wf S) {k : Nat} (hk : k < 3) {v : Int32} (h1 : ¬ v < 1) (h2 : v ≤ gvI k) : Wf (putSet S k v) := by
  obtain ⟨⟨na, nf, ns, ha, hf, hs, e1, e2, e3⟩, h3⟩ := h
  have h0 : ¬ v < 0 := fun q => h1 (Int32.lt_of_lt_of_le q (by decide))
  obtain ⟨n, hn, rfl⟩ := nI_of h0
  have h4 : 1 ≤ n := Nat.le_of_not_lt fun q => h1 ((nI_ltI (b := 1) hn (by decide)).mpr q)
  rcases (show k = 0 ∨ k = 1 ∨ k = 2 by omega) with rfl | rfl | rfl
  · have h5 : n ≤ 4 := (nI_leI (b := 4) hn (by decide)).mp h2
    exact ⟨⟨n, nf, ns, ⟨by omega, h4⟩, hf, hs, rfl, e2, e3⟩, h3⟩
  · have h5 : n ≤ 5 := (nI_leI (b := 5) hn (by decide)).mp h2
    exact ⟨⟨na, n, ns, ha, ⟨by omega, h4⟩, hs, e1, rfl, e3⟩, h3⟩
  · have h5 : n ≤ 5 := (nI_leI (b := 5) hn (by decide)).mp h2
    exact ⟨⟨na, nf, n, ha, hf, ⟨by omega, h4⟩, e1, e2, rfl⟩, h3⟩
theorem more_t {p n : Nat} (hp : p < 2 ^ 31) (hn : n < 2 ^ 31) : moreX (nI p) (nI n) = true ↔ p < n := by
  unfold moreX
  by_cases q : p < n
  · rw [if_pos ((nI_ltI hp hn).mpr q)]; exact ⟨fun _ => q, fun _ => rfl⟩
  · rw [if_neg (fun z => q ((nI_ltI hp hn).mp z))]; exact ⟨fun z => (by cases z), fun z => absurd z q⟩
theorem runK_stop {co : Nat → Int32} {n p d : Nat} {S : KS} {RES : KS × Nat} (ho : (mOrd co n p).1 = true) (hr : (mK S (mOrd co n p).2.1).2 = -1) (h : runK co n (n + 2) p S d = RES) : ((mK S (mOrd co n p).2.1).1, d) = RES := by
  rw [← h, runK, if_pos ho, if_pos hr]
theorem runK_next {co : Nat → Int32} {n p d : Nat} {S : KS} {RES : KS × Nat} (hp : p < n) (ho : (mOrd co n p).1 = true) (ho2 : (mOrd co n p).2.2 = n ∨ (co (mOrd co n p).2.2 = 59 ∧ (mOrd co n p).2.2 + 1 < n ∧ dfaE co ((mOrd co n p).2.2 + 1) = 0)) (hr : ¬ (mK S (mOrd co n p).2.1).2 = -1) (h : runK co n (n + 2) p S d = RES) :
    ((mOrd co n p).2.2 + 1 < n ∧ dfaE co ((mOrd co n p).2.2 + 1) = 0 ∧ runK co n (n + 2) ((mOrd co n p).2.2 + 1) (mK S (mOrd co n p).2.1).1 (d + 1) = RES) ∨ (n ≤ (mOrd co n p).2.2 + 1 ∧ ((mK S (mOrd co n p).2.1).1, d + 1) = RES) := by
  have hle := ord_le (Nat.le_of_lt hp) ho
  rw [runK, if_pos ho, if_neg hr] at h
  rcases ho2 with h2 | ⟨h2, h3, h4⟩
  · rw [if_pos h2] at h
    exact Or.inr ⟨by omega, h⟩
  · rw [if_neg (by omega)] at h
    exact Or.inl ⟨h3, h4, by rw [← h]; exact runK_fuel _ _ _ _ _ (by omega) (by omega) (by omega)⟩
def runS (co : Nat → Int32) (n : Nat) (S : KS) : KS × Nat := runK co n (n + 2) 0 S 0
theorem dfa_pos {co : Nat → Int32} {n : Nat} (h : dfaE co n = 8) : 0 < n := by
  cases n with
  | zero => exact absurd h (by decide : ¬ (0 : Int32) = 8)
  | succ n => omega
theorem Wf_runK {co : Nat → Int32} {n : Nat} (hn : n ≤ 60) (h8 : dfaE co n = 8) : ∀ (f p : Nat) (S : KS) (d : Nat), Wf S → p < n → dfaE co p = 0 → Wf (runK co n f p S d).1 := by
  intro f
  induction f with
  | zero => intro p S d h _ _; exact h
  | succ f ih =>
    intro p S d h hp h0
    obtain ⟨ho1, ho2⟩ := ord_at hp h0 h8
    have hw : Wf (mK S (mOrd co n p).2.1).1 := by
      obtain ⟨-, hO, hK⟩ := rd_ord hn hp ho1 (ho2.imp id (fun z => z.1)) 0 0 0 0
      rw [← hK S]
      exact Wf_ord h hO
    rw [runK, if_pos ho1]
    split
    · exact hw
    · split
      · exact hw
      · rename_i q
        rcases ho2 with z | ⟨z1, z2, z3⟩
        · exact absurd z q
        · exact ih _ _ _ hw z2 z3
