/-! Base of the walks: a world that is a list of cells and a rest X; contracts over it; calls. -/
abbrev tyL (cI cZ cW cJ : ClassId) : List (ClassId × FieldType) := [(cI, .int), (cZ, .boolean), (cW, .object "LedgeLeaps$World"), (cJ, .byte)]
/-- links of calls between the nested classes -/
def nestW : List (String × Nat × MethodName) := [(RX8, 11, yX7_init), (RX8, 32, yX3_init), (RX8, 39, yX0_init), (RX8, 46, yX2_init), (RX8, 53, yX4_init), (RX8, 60, yX5_init), (RX0, 34, yX8_at), (RX1, 17, yX7_init), (RX2, 38, yX8_store), (RX2, 42, yX8_at), (RX2, 46, yX8_isCell), (RX4, 17, yX0_init), (RX4, 59, yX8_at), (RX4, 63, yX8_store), (RX5, 34, yX8_at), (RX5, 38, yX8_store), (RX6, 21, yX7_init)]
def NS (U : State) : Prop := ∀ q ∈ nestW, va_Nw (.methodLinkNest q.1 q.2.1 q.2.2 RX8) U
theorem NS.warm {s U : State} (hW : s.WarmedH U.vm) (h : NS s) : NS U := fun q hq => va_Nw.warmM hW (h q hq)
theorem NS.same {s U : State} (hW : s.vm = U.vm) (h : NS s) : NS U := fun q hq => va_Nw.same rfl hW (h q hq)
def wd (D : va_G) (ty : List (ClassId × FieldType)) (A : Nat → Prop) (ws : va_W) (U : State) : Prop := (∀ q : Nat, U.heap.size ≤ q → A q) ∧ va_P D vwCl ws U.heap ∧ va_K D vwCl ty U ∧ va_D A ws ∧ NS U
def wq (D : va_G) (A : Nat → Prop) (ws : va_W) (t : State) : Prop := va_P D vwCl ws t.heap ∧ va_D A ws
def pmw (k : Nat) (is : List Nat) (w : va_W) : va_W := is.filterMap (fun i => w[i]?) ++ w.drop k
def pmc (k : Nat) (is : List Nat) : Bool := va_nd is && is.all (fun i => decide (i < k))
theorem pm_P {D : va_G} {w w' : va_W} {H : Heap} (h : va_P D vwCl w H) (k : Nat) (is : List Nat) (hs : pmw k is w = w') : va_P D vwCl w' H := by
  subst hs
  intro j q hj
  have hm : q ∈ pmw k is w := List.mem_of_getElem? hj
  rcases List.mem_append.mp hm with h1 | h1
  · obtain ⟨i, -, hi⟩ := List.mem_filterMap.mp h1
    exact h i q hi
  · obtain ⟨i, hi⟩ := List.mem_iff_getElem?.mp h1
    rw [List.getElem?_drop] at hi
    exact h _ q hi
theorem pm_idx {w : va_W} {k : Nat} {is : List Nat} (hc : pmc k is = true) (hin : ∀ i ∈ is, ∃ q, w[i]? = some q) : ∀ (j : Nat) (q : Nat × va_E), (pmw k is w)[j]? = some q → ∃ i, w[i]? = some q ∧ ((j < is.length ∧ is[j]? = some i) ∨ (is.length ≤ j ∧ i = k + (j - is.length))) := by
  have hl : ∀ (is : List Nat), (∀ i ∈ is, ∃ q, w[i]? = some q) → (is.filterMap (fun i => w[i]?)).length = is.length ∧ ∀ (j : Nat) (i : Nat), is[j]? = some i → (is.filterMap (fun i => w[i]?))[j]? = w[i]? := by
    intro is
    induction is with
    | nil => intro _; exact ⟨rfl, fun j i h => by simp at h⟩
    | cons a t ih =>
      intro h
      obtain ⟨q, hq⟩ := h a List.mem_cons_self
      obtain ⟨h1, h2⟩ := ih (fun i hi => h i (List.mem_cons_of_mem _ hi))
      refine ⟨by rw [List.filterMap_cons_some hq]; simp [h1], ?_⟩
      intro j i hj
      rw [List.filterMap_cons_some hq]
      cases j with
      | zero => simp at hj; subst hj; simp [hq]
      | succ j => simp at hj; simpa using h2 j i hj
  intro j q hj
  obtain ⟨h1, h2⟩ := hl is hin
  unfold pmw at hj
  rcases Nat.lt_or_ge j is.length with hlt | hge
  · rw [List.getElem?_append_left (by rw [h1]; exact hlt)] at hj
    obtain ⟨i, hi⟩ : ∃ i, is[j]? = some i := ⟨is[j], List.getElem?_eq_getElem hlt⟩
    exact ⟨i, by rw [← h2 j i hi]; exact hj, Or.inl ⟨hlt, hi⟩⟩
  · rw [List.getElem?_append_right (by rw [h1]; exact hge), List.getElem?_drop, h1] at hj
    exact ⟨_, hj, Or.inr ⟨hge, rfl⟩⟩
theorem pm_D {A : Nat → Prop} {w w' : va_W} (h : va_D A w) (k : Nat) (is : List Nat) (hs : pmw k is w = w') (hc : pmc k is = true) (hk : is.all (fun i => (w[i]?).isSome) = true) : va_D A w' := by
  subst hs
  have hc1 : va_nd is = true ∧ ∀ i ∈ is, i < k := by
    unfold pmc at hc
    rw [Bool.and_eq_true] at hc
    exact ⟨hc.1, fun i hi => of_decide_eq_true (List.all_eq_true.mp hc.2 i hi)⟩
  have hin : ∀ i ∈ is, ∃ q, w[i]? = some q := fun i hi => Option.isSome_iff_exists.mp (List.all_eq_true.mp hk i hi)
  have hx := pm_idx hc hin
  refine ⟨?_, ?_⟩
  · intro i j p q hi hj hpq
    obtain ⟨a, ha, ha2⟩ := hx i p hi
    obtain ⟨b, hb, hb2⟩ := hx j q hj
    have hab : a = b := h.1 a b p q ha hb hpq
    subst hab
    rcases ha2 with ⟨h1, h2⟩ | ⟨h1, h2⟩ <;> rcases hb2 with ⟨h3, h4⟩ | ⟨h3, h4⟩
    · exact va_nd_inj is hc1.1 i j a h2 h4
    · have := hc1.2 a (List.mem_of_getElem? h2); omega
    · have := hc1.2 a (List.mem_of_getElem? h4); omega
    · omega
  · intro j q hj
    obtain ⟨a, ha, -⟩ := hx j q hj
    exact h.2 a q ha
theorem wd_blind {D : va_G} {ty : List (ClassId × FieldType)} {A : Nat → Prop} {ws : va_W} {av : List Value} : FrameBlind (va_Pc av (wd D ty A ws)) := fun a U g mk q => ⟨q.1, q.2.1, q.2.2.1, va_K.moved (u := U) (U := U.calling g mk a) (Vm.Alike.refl U.vm) q.2.2.2.1, q.2.2.2.2.1, NS.same (s := U) (U := U.calling g mk a) rfl q.2.2.2.2.2⟩
theorem wd_of {D : va_G} {ty : List (ClassId × FieldType)} {A : Nat → Prop} {w : va_W} {s U : State} {H : Heap} {locs : List Loc} (hK : va_K D vwCl ty s) (hN : NS s) (hA : ∀ q : Nat, s.heap.size ≤ q → A q) (hP : va_P D vwCl w H) (hD : va_D A w) (hS : va_S A s.heap H locs) (hU : U.heap = H) (hW : s.WarmedH U.vm) : wd D ty A w U :=
  ⟨fun q h => hA q (Nat.le_trans hS.1 (by rw [hU] at h; exact h)), by rw [hU]; exact hP, va_K.moved hW.alike hK, hD, NS.warm hW hN⟩
/-- a truth value as the machine's int -/
def bI (b : Bool) : Int32 := if b then 1 else 0
theorem vp_ix {x : Int32} {e n : Nat} (hx : x = nI e) (h : e < n) (hn : n < 2 ^ 31) : vp_in x n := by rw [hx]; exact vp_in_nI h hn
theorem cl_ix {x : Int32} {e n : Nat} (hx : x = nI e) (h : e < n) (hn : n < 2 ^ 31) : x.toNatClampNeg = e := by rw [hx]; exact nI_clamp (Nat.lt_trans h hn)
theorem ld_ix {α : Type} {f : Nat → α} {x : Int32} {e n : Nat} (hx : x = nI e) (h : e < n) (hn : n < 2 ^ 31) : f x.toNatClampNeg = f e := by rw [cl_ix hx h hn]
theorem vp_in_c {x : Int32} {n : Nat} (hn : n < 2 ^ 31) (h0 : ¬ x < 0) (h1 : x < nI n) : vp_in x n := by
  obtain ⟨j, hj, rfl⟩ := nI_of h0
  exact vp_in_nI ((nI_ltI hj hn).mp h1) hn
theorem vp_in_d {x : Int32} {n : Nat} (hn : n < 2 ^ 31) (h0 : ¬ x < 0) (h1 : ¬ nI n ≤ x) : vp_in x n := by
  obtain ⟨j, hj, rfl⟩ := nI_of h0
  exact vp_in_nI (Nat.lt_of_not_le fun q => h1 ((nI_leI hn hj).mpr q)) hn
theorem lt_of_nge {a b : Nat} (ha : a < 2 ^ 31) (hb : b < 2 ^ 31) (h : ¬ nI a ≤ nI b) : b < a := Nat.lt_of_not_le fun q => h ((nI_leI ha hb).mpr q)
theorem le_of_ge {a b : Nat} (ha : a < 2 ^ 31) (hb : b < 2 ^ 31) (h : nI a ≤ nI b) : a ≤ b := (nI_leI ha hb).mp h
theorem le_of_nlt {a b : Nat} (ha : a < 2 ^ 31) (hb : b < 2 ^ 31) (h : ¬ nI a < nI b) : b ≤ a := Nat.le_of_not_lt fun q => h ((nI_ltI ha hb).mpr q)
theorem lt_of_lt {a b : Nat} (ha : a < 2 ^ 31) (hb : b < 2 ^ 31) (h : nI a < nI b) : a < b := (nI_ltI ha hb).mp h
theorem sw_out {x : Int32} (n : Nat) (h : ∀ k, k ≤ n → ¬ x = nI k) (hn : n < 2 ^ 31 := by decide) : x.toInt < 0 ∨ (n : Int) < x.toInt := by
  rcases Int.lt_or_le x.toInt 0 with q | q
  · exact Or.inl q
  · refine Or.inr (Int.lt_of_not_ge fun z => ?_)
    obtain ⟨j, hj, rfl⟩ := nI_of (x := x) (fun w => by rw [Int32.lt_iff_toInt_lt] at w; have e : (0 : Int32).toInt = 0 := by decide
                                                       rw [e] at w; omega)
    rw [nI_toInt hj] at z
    exact h j (by omega) rfl
theorem bI_v (b : Bool) : vp_nar .boolean (bI b) = bI b := by cases b <;> rfl
theorem bI_n (b : Bool) : narrow .boolean (.int (bI b)) = .int (bI b) := by cases b <;> rfl
theorem bI_f (b : Bool) : fits .boolean (.int (bI b)) = true := by cases b <;> rfl
theorem bI_t {b : Bool} : bI b = 0 ↔ b = false := by cases b <;> simp [bI]
theorem bI_nt {b : Bool} : ¬ bI b = 0 ↔ b = true := by cases b <;> simp [bI]
abbrev oX0 (a : Nat) (f0 : Int32) (f1 : Int32) (f2 : Int32) (f3 : Int32) (f4 : Int32) (f5 : Int32) (f6 : Int32) : Nat × va_E := (a, .inr (0, [.int f0, .int f1, .int f2, .int f3, .int f4, .int f5, .int f6]))
abbrev oX1 (a : Nat) (f0 : Int32) (f1 : Nat) : Nat × va_E := (a, .inr (1, [.int f0, .ref f1]))
abbrev oX2 (a : Nat) (f0 : Nat) (f1 : Nat) (f2 : Nat) (f3 : Int32) (f4 : Nat) : Nat × va_E := (a, .inr (2, [.ref f0, .ref f1, .ref f2, .int f3, .ref f4]))
abbrev oX3 (a : Nat) (f0 : Int32) (f1 : Int32) (f2 : Int32) (f3 : Int32) (f4 : Int32) (f5 : Int32) (f6 : Nat) (f7 : Int32) (f8 : Int32) (f9 : Int32) : Nat × va_E := (a, .inr (3, [.int f0, .int f1, .int f2, .int f3, .int f4, .int f5, .ref f6, .int f7, .int f8, .int f9]))
abbrev oX4 (a : Nat) (f0 : Int32) (f1 : Nat) (f2 : Nat) : Nat × va_E := (a, .inr (4, [.int f0, .ref f1, .ref f2]))
abbrev oX5 (a : Nat) (f0 : Nat) (f1 : Nat) (f2 : Nat) (f3 : Nat) (f4 : Int32) : Nat × va_E := (a, .inr (5, [.ref f0, .ref f1, .ref f2, .ref f3, .int f4]))
abbrev oX6 (a : Nat) (f0 : Nat) (f1 : Nat) : Nat × va_E := (a, .inr (6, [.ref f0, .ref f1]))
abbrev oX7 (a : Nat) (f0 : Nat) (f1 : Nat) (f2 : Int32) (f3 : Int32) (f4 : Int32) (f5 : Int32) (f6 : Int32) : Nat × va_E := (a, .inr (7, [.ref f0, .ref f1, .int f2, .int f3, .int f4, .int f5, .int f6]))
abbrev oX8 (a : Nat) (f0 : Nat) (f1 : Nat) (f2 : Nat) (f3 : Nat) (f4 : Nat) (f5 : Nat) (f6 : Nat) (f7 : Nat) (f8 : Int32) (f9 : Int32) : Nat × va_E := (a, .inr (8, [.ref f0, .ref f1, .ref f2, .ref f3, .ref f4, .ref f5, .ref f6, .ref f7, .int f8, .int f9]))
abbrev oX9 (a : Nat) (f0 : Nat) (f1 : Nat) (f2 : Int32) (f3 : Nat) (f4 : Nat) (f5 : Nat) (f6 : Int32) (f7 : Int32) (f8 : Nat) (f9 : Nat) (f10 : Nat) (f11 : Int32) (f12 : Nat) (f13 : Nat) (f14 : Int32) (f15 : Int32) (f16 : Int32) (f17 : Int32) (f18 : Int32) (f19 : Int32) (f20 : Int32) (f21 : Int32) (f22 : Int32) (f23 : Int32) (f24 : Nat) (f25 : Int64) : Nat × va_E := (a, .inr (9, [.ref f0, .ref f1, .int f2, .ref f3, .ref f4, .ref f5, .int f6, .int f7, .ref f8, .ref f9, .ref f10, .int f11, .ref f12, .ref f13, .int f14, .int f15, .int f16, .int f17, .int f18, .int f19, .int f20, .int f21, .int f22, .int f23, .ref f24, .long f25]))
abbrev aI (cI : ClassId) (a n : Nat) (f : Nat → Int32) : Nat × va_E := (a, .inl (cI, n, .inl f))
abbrev aZ (cZ : ClassId) (a n : Nat) (f : Nat → Int32) : Nat × va_E := (a, .inl (cZ, n, .inl f))
abbrev aJ (cJ : ClassId) (a n : Nat) (f : Nat → Int64) : Nat × va_E := (a, .inl (cJ, n, .inr (.inl f)))
abbrev aW (cW : ClassId) (a n : Nat) (f : Nat → Option Nat) : Nat × va_E := (a, .inl (cW, n, .inr (.inr (.inr (.inr f)))))
section Calls10
variable {p : Program} {l : Launch} {e : Env} {R : Room} {s : State} {m : MethodId} {args : Array Value} {below : List Frame} {meth : Method} {c : Code} {H : Heap} {locs : List Loc} {cells slots : Nat} {Q : State → Prop}
variable {cc : ByteArray} {pc : Nat} {ls : Array Slot} {rest st0 : List Value}
variable {y : MethodName} {bytes : ByteArray} {maxL nL mc ms n index : Nat} {ret : Option FieldType} {wsy : List Cond} {rm : Room} {Ts : List Cond} {own C host : String} {b : Addr} {As : List Value} {D : va_G} {ty : List (ClassId × FieldType)} {A : Nat → Prop} {w wc : va_W}
/-- how the callee's world is cut out of the caller's: the places, the rest -/
def cutw (D : va_G) (A : Nat → Prop) (w wc : va_W) (H : Heap) : Prop := va_P D vwCl wc H ∧ va_D A wc
theorem cut_of (k : Nat) (is : List Nat) (hP : va_P D vwCl w H) (hD : va_D A w) (hw : pmw k is w = wc) (hc : pmc k is = true) (hk : is.all (fun i => (w[i]?).isSome) = true) : cutw D A w wc H := ⟨pm_P hP k is hw, pm_D hD k is hw hc hk⟩
theorem cV_i {S : Type} {post : Int32 → S → Prop} {wc' : S → va_W} {r0 : vw_C} {fs : List Value} {ci q0 : Nat} (CF : CallFix p m c cc nL s args Ts own) (hK : va_K D vwCl ty s) (hN : NS s) (hA : ∀ q : Nat, s.heap.size ≤ q → A q) (hS : va_S A s.heap H locs) (hC : cutw D A w wc H)
    (hM : Met l y wsy rm (va_Pc (.ref b :: As) (wd D ty A wc)) (va_Qi post (fun u t => wq D A (wc' u) t) A) mc ms A) (cw : CallW R s args own r0.1 index y bytes maxL ret wsy rm mc ms n) (hcl : vwCl[ci]? = some r0) (he : wc[q0]? = some (b, .inr (ci, fs)))
    (hn : As.length = n) (hsize : ls.size = nL) (hstack : st0 = As.reverse ++ .ref b :: rest) (hW : (rest.map fun v => v.category).sum ≤ 8) (hdg : decode cc pc = .ok (.invokevirtual index, 3)) (hf : cells + mc ≤ R.cells ∧ slots + ms ≤ R.slots)
    (kk : ∀ (r : Int32) (u : S) (H1 : Heap) (locs1 : List Loc), post r u → va_P D vwCl (wc' u) H1 → va_D A (wc' u) → va_S A s.heap H1 locs1 → W p l e R s m args below meth c H1 locs1 (cells + mc) (slots + ms) Q (F0 m (pc + 3) ls (.int r :: rest))) : W p l e R s m args below meth c H locs cells slots Q (F0 m pc ls st0) :=
  va_calli (va_runV (g := F0 m pc ls st0) CF hM cw ⟨wd_blind, va_recv hK hC.1 hcl he, fun U hU hW2 => ⟨rfl, wd_of hK hN hA hC.1 hC.2 hS hU hW2⟩⟩ rfl hn hsize hstack (lv_room hW) hdg hf) hS (fun _ _ h => h) (fun _ h => h)
    (fun r u t H1 locs1 ht _ hp hB _ _ hS1 => kk r u H1 locs1 hp (ht ▸ hB.1) hB.2 hS1)
theorem cV_l {S : Type} {post : Int64 → S → Prop} {wc' : S → va_W} {r0 : vw_C} {fs : List Value} {ci q0 : Nat} (CF : CallFix p m c cc nL s args Ts own) (hK : va_K D vwCl ty s) (hN : NS s) (hA : ∀ q : Nat, s.heap.size ≤ q → A q) (hS : va_S A s.heap H locs) (hC : cutw D A w wc H)
    (hM : Met l y wsy rm (va_Pc (.ref b :: As) (wd D ty A wc)) (va_Ql post (fun u t => wq D A (wc' u) t) A) mc ms A) (cw : CallW R s args own r0.1 index y bytes maxL ret wsy rm mc ms n) (hcl : vwCl[ci]? = some r0) (he : wc[q0]? = some (b, .inr (ci, fs)))
    (hn : As.length = n) (hsize : ls.size = nL) (hstack : st0 = As.reverse ++ .ref b :: rest) (hW : (rest.map fun v => v.category).sum ≤ 8) (hdg : decode cc pc = .ok (.invokevirtual index, 3)) (hf : cells + mc ≤ R.cells ∧ slots + ms ≤ R.slots)
    (kk : ∀ (r : Int64) (u : S) (H1 : Heap) (locs1 : List Loc), post r u → va_P D vwCl (wc' u) H1 → va_D A (wc' u) → va_S A s.heap H1 locs1 → W p l e R s m args below meth c H1 locs1 (cells + mc) (slots + ms) Q (F0 m (pc + 3) ls (.long r :: rest))) : W p l e R s m args below meth c H locs cells slots Q (F0 m pc ls st0) :=
  va_calll (va_runV (g := F0 m pc ls st0) CF hM cw ⟨wd_blind, va_recv hK hC.1 hcl he, fun U hU hW2 => ⟨rfl, wd_of hK hN hA hC.1 hC.2 hS hU hW2⟩⟩ rfl hn hsize hstack (lv_room hW) hdg hf) hS (fun _ _ h => h) (fun _ h => h)
    (fun r u t H1 locs1 ht _ hp hB _ _ hS1 => kk r u H1 locs1 hp (ht ▸ hB.1) hB.2 hS1)
theorem cV_d {S : Type} {post : UInt64 → S → Prop} {wc' : S → va_W} {r0 : vw_C} {fs : List Value} {ci q0 : Nat} (CF : CallFix p m c cc nL s args Ts own) (hK : va_K D vwCl ty s) (hN : NS s) (hA : ∀ q : Nat, s.heap.size ≤ q → A q) (hS : va_S A s.heap H locs) (hC : cutw D A w wc H)
    (hM : Met l y wsy rm (va_Pc (.ref b :: As) (wd D ty A wc)) (va_Qd post (fun u t => wq D A (wc' u) t) A) mc ms A) (cw : CallW R s args own r0.1 index y bytes maxL ret wsy rm mc ms n) (hcl : vwCl[ci]? = some r0) (he : wc[q0]? = some (b, .inr (ci, fs)))
    (hn : As.length = n) (hsize : ls.size = nL) (hstack : st0 = As.reverse ++ .ref b :: rest) (hW : (rest.map fun v => v.category).sum ≤ 8) (hdg : decode cc pc = .ok (.invokevirtual index, 3)) (hf : cells + mc ≤ R.cells ∧ slots + ms ≤ R.slots)
    (kk : ∀ (r : UInt64) (u : S) (H1 : Heap) (locs1 : List Loc), post r u → va_P D vwCl (wc' u) H1 → va_D A (wc' u) → va_S A s.heap H1 locs1 → W p l e R s m args below meth c H1 locs1 (cells + mc) (slots + ms) Q (F0 m (pc + 3) ls (.double r :: rest))) : W p l e R s m args below meth c H locs cells slots Q (F0 m pc ls st0) :=
  va_calld (va_runV (g := F0 m pc ls st0) CF hM cw ⟨wd_blind, va_recv hK hC.1 hcl he, fun U hU hW2 => ⟨rfl, wd_of hK hN hA hC.1 hC.2 hS hU hW2⟩⟩ rfl hn hsize hstack (lv_room hW) hdg hf) hS (fun _ _ h => h) (fun _ h => h)
    (fun r u t H1 locs1 ht _ hp hB _ _ hS1 => kk r u H1 locs1 hp (ht ▸ hB.1) hB.2 hS1)
theorem cV_v {S : Type} {post : S → Prop} {wc' : S → va_W} {r0 : vw_C} {fs : List Value} {ci q0 : Nat} (CF : CallFix p m c cc nL s args Ts own) (hK : va_K D vwCl ty s) (hN : NS s) (hA : ∀ q : Nat, s.heap.size ≤ q → A q) (hS : va_S A s.heap H locs) (hC : cutw D A w wc H)
    (hM : Met l y wsy rm (va_Pc (.ref b :: As) (wd D ty A wc)) (va_Qv post (fun u t => wq D A (wc' u) t) A) mc ms A) (cw : CallW R s args own r0.1 index y bytes maxL ret wsy rm mc ms n) (hcl : vwCl[ci]? = some r0) (he : wc[q0]? = some (b, .inr (ci, fs)))
    (hn : As.length = n) (hsize : ls.size = nL) (hstack : st0 = As.reverse ++ .ref b :: rest) (hW : (rest.map fun v => v.category).sum ≤ 8) (hdg : decode cc pc = .ok (.invokevirtual index, 3)) (hf : cells + mc ≤ R.cells ∧ slots + ms ≤ R.slots)
    (kk : ∀ (u : S) (H1 : Heap) (locs1 : List Loc), post u → va_P D vwCl (wc' u) H1 → va_D A (wc' u) → va_S A s.heap H1 locs1 → W p l e R s m args below meth c H1 locs1 (cells + mc) (slots + ms) Q (F0 m (pc + 3) ls rest)) : W p l e R s m args below meth c H locs cells slots Q (F0 m pc ls st0) :=
  va_callv (va_runV (g := F0 m pc ls st0) CF hM cw ⟨wd_blind, va_recv hK hC.1 hcl he, fun U hU hW2 => ⟨rfl, wd_of hK hN hA hC.1 hC.2 hS hU hW2⟩⟩ rfl hn hsize hstack (lv_room hW) hdg hf) hS (fun _ _ h => h) (fun _ h => h)
    (fun u t H1 locs1 ht _ hp hB _ _ hS1 => kk u H1 locs1 hp (ht ▸ hB.1) hB.2 hS1)
theorem cS_i {S : Type} {post : Int32 → S → Prop} {wc' : S → va_W} (CF : CallFix p m c cc nL s args Ts own) (hK : va_K D vwCl ty s) (hN : NS s) (hA : ∀ q : Nat, s.heap.size ≤ q → A q) (hS : va_S A s.heap H locs) (hC : cutw D A w wc H)
    (hM : Met l y wsy rm (va_Pc As (wd D ty A wc)) (va_Qi post (fun u t => wq D A (wc' u) t) A) mc ms A) (cw : CallB R s args own index y bytes maxL ret wsy rm mc ms n ∧ (Cond.static y).before args s = true)
    (hn : As.length = n) (hsize : ls.size = nL) (hstack : st0 = As.reverse ++ rest) (hW : (rest.map fun v => v.category).sum ≤ 8) (hdg : decode cc pc = .ok (.invokestatic index, 3)) (hf : cells + mc ≤ R.cells ∧ slots + ms ≤ R.slots)
    (kk : ∀ (r : Int32) (u : S) (H1 : Heap) (locs1 : List Loc), post r u → va_P D vwCl (wc' u) H1 → va_D A (wc' u) → va_S A s.heap H1 locs1 → W p l e R s m args below meth c H1 locs1 (cells + mc) (slots + ms) Q (F0 m (pc + 3) ls (.int r :: rest))) : W p l e R s m args below meth c H locs cells slots Q (F0 m pc ls st0) :=
  va_calli (va_runS (g := F0 m pc ls st0) CF hM cw ⟨wd_blind, fun U hU hW2 => ⟨rfl, wd_of hK hN hA hC.1 hC.2 hS hU hW2⟩⟩ rfl hn hsize hstack (lv_room hW) hdg hf) hS (fun _ _ h => h) (fun _ h => h)
    (fun r u t H1 locs1 ht _ hp hB _ _ hS1 => kk r u H1 locs1 hp (ht ▸ hB.1) hB.2 hS1)
theorem cS_l {S : Type} {post : Int64 → S → Prop} {wc' : S → va_W} (CF : CallFix p m c cc nL s args Ts own) (hK : va_K D vwCl ty s) (hN : NS s) (hA : ∀ q : Nat, s.heap.size ≤ q → A q) (hS : va_S A s.heap H locs) (hC : cutw D A w wc H)
    (hM : Met l y wsy rm (va_Pc As (wd D ty A wc)) (va_Ql post (fun u t => wq D A (wc' u) t) A) mc ms A) (cw : CallB R s args own index y bytes maxL ret wsy rm mc ms n ∧ (Cond.static y).before args s = true)
    (hn : As.length = n) (hsize : ls.size = nL) (hstack : st0 = As.reverse ++ rest) (hW : (rest.map fun v => v.category).sum ≤ 8) (hdg : decode cc pc = .ok (.invokestatic index, 3)) (hf : cells + mc ≤ R.cells ∧ slots + ms ≤ R.slots)
    (kk : ∀ (r : Int64) (u : S) (H1 : Heap) (locs1 : List Loc), post r u → va_P D vwCl (wc' u) H1 → va_D A (wc' u) → va_S A s.heap H1 locs1 → W p l e R s m args below meth c H1 locs1 (cells + mc) (slots + ms) Q (F0 m (pc + 3) ls (.long r :: rest))) : W p l e R s m args below meth c H locs cells slots Q (F0 m pc ls st0) :=
  va_calll (va_runS (g := F0 m pc ls st0) CF hM cw ⟨wd_blind, fun U hU hW2 => ⟨rfl, wd_of hK hN hA hC.1 hC.2 hS hU hW2⟩⟩ rfl hn hsize hstack (lv_room hW) hdg hf) hS (fun _ _ h => h) (fun _ h => h)
    (fun r u t H1 locs1 ht _ hp hB _ _ hS1 => kk r u H1 locs1 hp (ht ▸ hB.1) hB.2 hS1)
theorem cS_v {S : Type} {post : S → Prop} {wc' : S → va_W} (CF : CallFix p m c cc nL s args Ts own) (hK : va_K D vwCl ty s) (hN : NS s) (hA : ∀ q : Nat, s.heap.size ≤ q → A q) (hS : va_S A s.heap H locs) (hC : cutw D A w wc H)
    (hM : Met l y wsy rm (va_Pc As (wd D ty A wc)) (va_Qv post (fun u t => wq D A (wc' u) t) A) mc ms A) (cw : CallB R s args own index y bytes maxL ret wsy rm mc ms n ∧ (Cond.static y).before args s = true)
    (hn : As.length = n) (hsize : ls.size = nL) (hstack : st0 = As.reverse ++ rest) (hW : (rest.map fun v => v.category).sum ≤ 8) (hdg : decode cc pc = .ok (.invokestatic index, 3)) (hf : cells + mc ≤ R.cells ∧ slots + ms ≤ R.slots)
    (kk : ∀ (u : S) (H1 : Heap) (locs1 : List Loc), post u → va_P D vwCl (wc' u) H1 → va_D A (wc' u) → va_S A s.heap H1 locs1 → W p l e R s m args below meth c H1 locs1 (cells + mc) (slots + ms) Q (F0 m (pc + 3) ls rest)) : W p l e R s m args below meth c H locs cells slots Q (F0 m pc ls st0) :=
  va_callv (va_runS (g := F0 m pc ls st0) CF hM cw ⟨wd_blind, fun U hU hW2 => ⟨rfl, wd_of hK hN hA hC.1 hC.2 hS hU hW2⟩⟩ rfl hn hsize hstack (lv_room hW) hdg hf) hS (fun _ _ h => h) (fun _ h => h)
    (fun u t H1 locs1 ht _ hp hB _ _ hS1 => kk u H1 locs1 hp (ht ▸ hB.1) hB.2 hS1)
theorem cSN_i {S : Type} {post : Int32 → S → Prop} {wc' : S → va_W} (CF : CallFix p m c cc nL s args Ts own) (hK : va_K D vwCl ty s) (hN : NS s) (hA : ∀ q : Nat, s.heap.size ≤ q → A q) (hS : va_S A s.heap H locs) (hC : cutw D A w wc H)
    (hM : Met l y wsy rm (va_Pc As (wd D ty A wc)) (va_Qi post (fun u t => wq D A (wc' u) t) A) mc ms A) (cw : va_CN R s args own index y host bytes maxL ret wsy rm mc ms n ∧ (Cond.static y).before args s = true ∧ True)
    (hn : As.length = n) (hsize : ls.size = nL) (hstack : st0 = As.reverse ++ rest) (hW : (rest.map fun v => v.category).sum ≤ 8) (hdg : decode cc pc = .ok (.invokestatic index, 3)) (hf : cells + mc ≤ R.cells ∧ slots + ms ≤ R.slots)
    (kk : ∀ (r : Int32) (u : S) (H1 : Heap) (locs1 : List Loc), post r u → va_P D vwCl (wc' u) H1 → va_D A (wc' u) → va_S A s.heap H1 locs1 → W p l e R s m args below meth c H1 locs1 (cells + mc) (slots + ms) Q (F0 m (pc + 3) ls (.int r :: rest))) : W p l e R s m args below meth c H locs cells slots Q (F0 m pc ls st0) :=
  va_calli (va_runSN (g := F0 m pc ls st0) CF hM cw ⟨wd_blind, fun U hU hW2 => ⟨rfl, wd_of hK hN hA hC.1 hC.2 hS hU hW2⟩⟩ rfl hn hsize hstack (lv_room hW) hdg hf) hS (fun _ _ h => h) (fun _ h => h)
    (fun r u t H1 locs1 ht _ hp hB _ _ hS1 => kk r u H1 locs1 hp (ht ▸ hB.1) hB.2 hS1)
theorem cSN_v {S : Type} {post : S → Prop} {wc' : S → va_W} (CF : CallFix p m c cc nL s args Ts own) (hK : va_K D vwCl ty s) (hN : NS s) (hA : ∀ q : Nat, s.heap.size ≤ q → A q) (hS : va_S A s.heap H locs) (hC : cutw D A w wc H)
    (hM : Met l y wsy rm (va_Pc As (wd D ty A wc)) (va_Qv post (fun u t => wq D A (wc' u) t) A) mc ms A) (cw : va_CN R s args own index y host bytes maxL ret wsy rm mc ms n ∧ (Cond.static y).before args s = true ∧ True)
    (hn : As.length = n) (hsize : ls.size = nL) (hstack : st0 = As.reverse ++ rest) (hW : (rest.map fun v => v.category).sum ≤ 8) (hdg : decode cc pc = .ok (.invokestatic index, 3)) (hf : cells + mc ≤ R.cells ∧ slots + ms ≤ R.slots)
    (kk : ∀ (u : S) (H1 : Heap) (locs1 : List Loc), post u → va_P D vwCl (wc' u) H1 → va_D A (wc' u) → va_S A s.heap H1 locs1 → W p l e R s m args below meth c H1 locs1 (cells + mc) (slots + ms) Q (F0 m (pc + 3) ls rest)) : W p l e R s m args below meth c H locs cells slots Q (F0 m pc ls st0) :=
  va_callv (va_runSN (g := F0 m pc ls st0) CF hM cw ⟨wd_blind, fun U hU hW2 => ⟨rfl, wd_of hK hN hA hC.1 hC.2 hS hU hW2⟩⟩ rfl hn hsize hstack (lv_room hW) hdg hf) hS (fun _ _ h => h) (fun _ h => h)
    (fun u t H1 locs1 ht _ hp hB _ _ hS1 => kk u H1 locs1 hp (ht ▸ hB.1) hB.2 hS1)
theorem top_i {x y : Int32} (h : x = y) (k : W p l e R s m args below meth c H locs cells slots Q (F0 m pc ls (.int y :: rest))) : W p l e R s m args below meth c H locs cells slots Q (F0 m pc ls (.int x :: rest)) := by rw [h]; exact k
theorem top_l {x y : Int64} (h : x = y) (k : W p l e R s m args below meth c H locs cells slots Q (F0 m pc ls (.long y :: rest))) : W p l e R s m args below meth c H locs cells slots Q (F0 m pc ls (.long x :: rest)) := by rw [h]; exact k
theorem va_aldr {cl : List vw_C} {tys : List (ClassId × FieldType)} {a v : Nat} {ws : va_W} (hexec : p.tables.exec = Jvm.exec) (hb : c.code = cc) (hK : va_K D cl tys s) (hP : va_P D cl ws H) (q0 t0 : Nat) {cA : ClassId} {C : String} {n : Nat} {f : Nat → Option Nat} (ha : ws[q0]? = some (a, .inl (cA, n, .inr (.inr (.inr (.inr f)))))) (ht : tys[t0]? = some (cA, .object C)) {i : Int32} (hin : vp_in i n) (hv : f i.toNatClampNeg = some v) (hdg : decode cc pc = .ok (.aaload, 1))
    (kk : W p l e R s m args below meth c H locs cells slots Q (F0 m (pc + 1) ls (.ref v :: rest))) : W p l e R s m args below meth c H locs cells slots Q (F0 m pc ls (.int i :: .ref a :: rest)) := by
  refine va_aldq hexec hb hK hP q0 t0 ha ht hin hdg ?_
  rw [hv]
  exact kk
end Calls10
