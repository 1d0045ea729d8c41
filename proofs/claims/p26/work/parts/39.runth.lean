/-! a static table; orders one behind another -/
def gvI (j : Nat) : Int32 := if j = 0 then 4 else 5
def wt (t0 : Nat) (D : va_G) (ty : List (ClassId × FieldType)) (A : Nat → Prop) (ws : va_W) (U : State) : Prop := wd D ty A ws U ∧ va_T .int t0 3 (fun j => .int (gvI j)) A U U.heap
def wz (t0 : Nat) (D : va_G) (ty : List (ClassId × FieldType)) (A : Nat → Prop) (ws : va_W) (U : State) : Prop := wd D ty A ws U ∧ va_Z RX8 "GREATEST_VALUES" "[I" (.ref t0) A U U.heap ∧ va_T .int t0 3 (fun j => .int (gvI j)) A U U.heap
theorem wt_blind {t0 : Nat} {D : va_G} {ty : List (ClassId × FieldType)} {A : Nat → Prop} {ws : va_W} {av : List Value} : FrameBlind (va_Pc av (wt t0 D ty A ws)) := fun a U g mk q => ⟨q.1, (wd_blind (av := av) a U g mk ⟨q.1, q.2.1⟩).2, va_T.moved (u := U) (U := U.calling g mk a) (Vm.Alike.refl U.vm) q.2.2⟩
theorem wz_blind {t0 : Nat} {D : va_G} {ty : List (ClassId × FieldType)} {A : Nat → Prop} {ws : va_W} {av : List Value} : FrameBlind (va_Pc av (wz t0 D ty A ws)) := fun a U g mk q => ⟨q.1, (wd_blind (av := av) a U g mk ⟨q.1, q.2.1⟩).2, va_Z.moved (u := U) (U := U.calling g mk a) (Vm.Alike.refl U.vm) q.2.2.1, va_T.moved (u := U) (U := U.calling g mk a) (Vm.Alike.refl U.vm) q.2.2.2⟩
section Stat39
variable {p : Program} {l : Launch} {e : Env} {R : Room} {s : State} {m : MethodId} {args : Array Value} {below : List Frame} {meth : Method} {c : Code} {H : Heap} {locs : List Loc} {cells slots : Nat} {Q : State → Prop}
variable {cc : ByteArray} {pc : Nat} {ls : Array Slot} {rest st0 : List Value}
variable {y : MethodName} {bytes : ByteArray} {maxL nL mc ms n index : Nat} {ret : Option FieldType} {wsy : List Cond} {rm : Room} {Ts : List Cond} {own C host : String} {b : Addr} {As : List Value} {D : va_G} {ty : List (ClassId × FieldType)} {A : Nat → Prop} {w wc : va_W}
theorem cST_i {S : Type} {post : Int32 → S → Prop} {wc' : S → va_W} {t0 : Nat} (hT : va_T .int t0 3 (fun j => .int (gvI j)) A s s.heap) (CF : CallFix p m c cc nL s args Ts own) (hK : va_K D vwCl ty s) (hN : NS s) (hA : ∀ q : Nat, s.heap.size ≤ q → A q) (hS : va_S A s.heap H locs) (hC : cutw D A w wc H)
    (hM : Met l y wsy rm (va_Pc As (wt t0 D ty A wc)) (va_Qi post (fun u t => wq D A (wc' u) t) A) mc ms A) (cw : CallB R s args own index y bytes maxL ret wsy rm mc ms n ∧ (Cond.static y).before args s = true)
    (hn : As.length = n) (hsize : ls.size = nL) (hstack : st0 = As.reverse ++ rest) (hW : (rest.map fun v => v.category).sum ≤ 8) (hdg : decode cc pc = .ok (.invokestatic index, 3)) (hf : cells + mc ≤ R.cells ∧ slots + ms ≤ R.slots)
    (kk : ∀ (r : Int32) (u : S) (H1 : Heap) (locs1 : List Loc), post r u → va_P D vwCl (wc' u) H1 → va_D A (wc' u) → va_S A s.heap H1 locs1 → W p l e R s m args below meth c H1 locs1 (cells + mc) (slots + ms) Q (F0 m (pc + 3) ls (.int r :: rest))) : W p l e R s m args below meth c H locs cells slots Q (F0 m pc ls st0) :=
  va_calli (va_runS (g := F0 m pc ls st0) CF hM cw ⟨wt_blind, fun U hU hW2 => ⟨rfl, wd_of hK hN hA hC.1 hC.2 hS hU hW2, by rw [hU]; exact (va_T.moved hW2.alike hT).kept hS.2.1⟩⟩ rfl hn hsize hstack (lv_room hW) hdg hf) hS (fun _ _ h => h) (fun _ h => h)
    (fun r u t H1 locs1 ht _ hp hB _ _ hS1 => kk r u H1 locs1 hp (ht ▸ hB.1) hB.2 hS1)
end Stat39
theorem AbsX.set {S : KS} {bl se : Nat → Int32} {c r l w f : Int32} (h : AbsX S bl se c r l w f) {k : Nat} (hk : k < 3) (v : Int32) : AbsX (putSet S k v) bl (upd se k v) c r l w f := by
  obtain ⟨h1, ⟨a1, a2, a3⟩, h3⟩ := h
  rcases (show k = 0 ∨ k = 1 ∨ k = 2 by omega) with rfl | rfl | rfl
  · exact ⟨h1, ⟨pk_us, (pk_un (by decide)).trans a2, (pk_un (by decide)).trans a3⟩, h3⟩
  · exact ⟨h1, ⟨(pk_un (by decide)).trans a1, pk_us, (pk_un (by decide)).trans a3⟩, h3⟩
  · exact ⟨h1, ⟨(pk_un (by decide)).trans a1, (pk_un (by decide)).trans a2, pk_us⟩, h3⟩
theorem Wf_set {S : KS} (h : Wf S) {k : Nat} (hk : k < 3) {v : Int32} (h1 : ¬ v < 1) (h2 : v ≤ gvI k) : Wf (putSet S k v) := by
  obtain ⟨⟨na, nf, ns, ha, hf, hs, e1, e2, e3⟩, h3⟩ := h
  have h0 : ¬ v < 0 := fun q => h1 (Int32.lt_of_lt_of_le q (by decide))
  obtain ⟨n, hn, rfl⟩ := nI_of h0
  have h4 : 1 ≤ n := Nat.le_of_not_lt fun q => h1 ((nI_ltI (b := 1) hn (by decide)).mpr q)
  rcases (show k = 0 ∨ k = 1 ∨ k = 2 by omega) with rfl | rfl | rfl
  · have h5 : n ≤ 4 := (nI_leI (b := 4) hn (by decide)).mp h2
    exact ⟨⟨n, nf, ns, ⟨by omega, h4⟩, hf, hs, rfl, e2, e3⟩, h3⟩
  · have h5 : n ≤ 5 := (nI_leI (b := 5) hn (by decide)).mp h2
    exact ⟨⟨na, n, ns, ha, ⟨by omega, h4⟩, hs, e1, rfl, e3⟩, h3⟩
  · have h5 : n ≤ 5 := (nI_leI (b := 5) hn (by decide)).mp h2
    exact ⟨⟨na, nf, n, ha, hf, ⟨by omega, h4⟩, e1, e2, rfl⟩, h3⟩
