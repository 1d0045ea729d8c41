/-! new cells, laid in front; constructors called -/
section New63
variable {p : Program} {l : Launch} {e : Env} {R : Room} {s : State} {m : MethodId} {args : Array Value} {below : List Frame} {meth : Method} {c : Code} {H : Heap} {locs : List Loc} {cells slots : Nat} {Q : State → Prop}
variable {cc : ByteArray} {pc : Nat} {ls : Array Slot} {rest st0 : List Value}
variable {y : MethodName} {bytes : ByteArray} {maxL nL mc ms n index : Nat} {wsy : List Cond} {rm : Room} {Ts : List Cond} {own C host : String} {b : Addr} {As : List Value} {D : va_G} {ty : List (ClassId × FieldType)} {A : Nat → Prop} {w wc : va_W} {cI cZ cW cJ : ClassId}
theorem perm_PD {w w' : va_W} (hp : w.Perm w') (hP : va_P D vwCl w H) (hD : va_D A w) : va_P D vwCl w' H ∧ va_D A w' := by
  refine ⟨fun k q hk => ?_, ?_, fun k q hk => ?_⟩
  · obtain ⟨i, hi⟩ := List.mem_iff_getElem?.mp (hp.mem_iff.mpr (List.mem_of_getElem? hk))
    exact hP i q hi
  · have hn : w.Pairwise (fun p q => p.1 ≠ q.1) := by
      rw [List.pairwise_iff_getElem]
      intro i j hi hj hij e
      have := hD.1 i j _ _ (List.getElem?_eq_getElem hi) (List.getElem?_eq_getElem hj) e
      omega
    have hn2 : w'.Pairwise (fun p q => p.1 ≠ q.1) := (hp.pairwise_iff (fun h => Ne.symm h)).mp hn
    rw [List.pairwise_iff_getElem] at hn2
    intro i j p q hi hj e
    obtain ⟨hi1, rfl⟩ := List.getElem?_eq_some_iff.mp hi
    obtain ⟨hj1, rfl⟩ := List.getElem?_eq_some_iff.mp hj
    rcases Nat.lt_trichotomy i j with z | z | z
    · exact absurd e (hn2 i j hi1 hj1 z)
    · exact z
    · exact absurd e.symm (hn2 j i hj1 hi1 z)
  · obtain ⟨i, hi⟩ := List.mem_iff_getElem?.mp (hp.mem_iff.mpr (List.mem_of_getElem? hk))
    exact hD.2 i q hi
theorem front {x : Nat × va_E} (hP : va_P D vwCl (w ++ [x]) H) (hD : va_D A (w ++ [x])) : va_P D vwCl (x :: w) H ∧ va_D A (x :: w) := perm_PD (List.perm_append_comm (l₁ := w) (l₂ := [x])) hP hD
/-- cells in the middle, to the end -/
theorem toEnd {a L X : va_W} (hP : va_P D vwCl (a ++ (L ++ X)) H) (hD : va_D A (a ++ (L ++ X))) : va_P D vwCl (a ++ (X ++ L)) H ∧ va_D A (a ++ (X ++ L)) := perm_PD (List.Perm.append_left _ List.perm_append_comm) hP hD
theorem nwI (hexec : p.tables.exec = Jvm.exec) (hb : c.code = cc) (harr : (Cond.arrayClass .int).before args s = true) (hK : va_K D vwCl (tyL cI cZ cW cJ) s) (hP : va_P D vwCl w H) (hD : va_D A w) (hS : va_S A s.heap H locs) (hA : ∀ q : Nat, s.heap.size ≤ q → A q) {n : Int32} {N : Nat} (hn : ¬ n < 0) (hN : n.toNatClampNeg = N) (hbytes : N * 4 ≤ 536870912) (hcells : cells + 1 ≤ R.cells) (hslots : slots + N ≤ R.slots) (hdg : decode cc pc = .ok (.newarray .int, 2))
    (kk : ∀ (q : Nat) (H1 : Heap), va_P D vwCl (aI cI q N (fun _ => 0) :: w) H1 → va_D A (aI cI q N (fun _ => 0) :: w) → va_S A s.heap H1 locs → W p l e R s m args below meth c H1 locs (cells + 1) (slots + N) Q (F0 m (pc + 2) ls (.ref q :: rest))) : W p l e R s m args below meth c H locs cells slots Q (F0 m pc ls (.int n :: rest)) := by
  refine va_newa (atype := .int) (ty := .int) (a0 := (N, .inl (fun _ => 0))) hexec hb harr rfl hK hP hD hS hA (fun _ => rfl) hn hN hbytes hcells hslots hdg (fun q cA H1 hK1 hP1 hD1 hS1 => ?_)
  have h1 : s.vm.findClass ("[" ++ FieldType.int.toString) = some cI := (hK.2 0 (cI, .int) rfl).2
  have h2 : s.vm.findClass ("[" ++ FieldType.int.toString) = some cA := (hK1.2 4 (cA, .int) rfl).2
  obtain rfl : cA = cI := Option.some.inj (h2.symm.trans h1)
  obtain ⟨hP2, hD2⟩ := front hP1 hD1
  exact kk q H1 hP2 hD2 hS1
theorem nwZ (hexec : p.tables.exec = Jvm.exec) (hb : c.code = cc) (harr : (Cond.arrayClass .boolean).before args s = true) (hK : va_K D vwCl (tyL cI cZ cW cJ) s) (hP : va_P D vwCl w H) (hD : va_D A w) (hS : va_S A s.heap H locs) (hA : ∀ q : Nat, s.heap.size ≤ q → A q) {n : Int32} {N : Nat} (hn : ¬ n < 0) (hN : n.toNatClampNeg = N) (hbytes : N * 1 ≤ 536870912) (hcells : cells + 1 ≤ R.cells) (hslots : slots + N ≤ R.slots) (hdg : decode cc pc = .ok (.newarray .boolean, 2))
    (kk : ∀ (q : Nat) (H1 : Heap), va_P D vwCl (aZ cZ q N (fun _ => 0) :: w) H1 → va_D A (aZ cZ q N (fun _ => 0) :: w) → va_S A s.heap H1 locs → W p l e R s m args below meth c H1 locs (cells + 1) (slots + N) Q (F0 m (pc + 2) ls (.ref q :: rest))) : W p l e R s m args below meth c H locs cells slots Q (F0 m pc ls (.int n :: rest)) := by
  refine va_newa (atype := .boolean) (ty := .boolean) (a0 := (N, .inl (fun _ => 0))) hexec hb harr rfl hK hP hD hS hA (fun _ => rfl) hn hN hbytes hcells hslots hdg (fun q cA H1 hK1 hP1 hD1 hS1 => ?_)
  have h1 : s.vm.findClass ("[" ++ FieldType.boolean.toString) = some cZ := (hK.2 1 (cZ, .boolean) rfl).2
  have h2 : s.vm.findClass ("[" ++ FieldType.boolean.toString) = some cA := (hK1.2 4 (cA, .boolean) rfl).2
  obtain rfl : cA = cZ := Option.some.inj (h2.symm.trans h1)
  obtain ⟨hP2, hD2⟩ := front hP1 hD1
  exact kk q H1 hP2 hD2 hS1
theorem nwW (hexec : p.tables.exec = Jvm.exec) (hb : c.code = cc) (hown : s.vm.findClass own = some m.cls) (hcl : (Cond.classLink own index RX7).before args s = true) (hAO : va_AO RX7 s) (hK : va_K D vwCl (tyL cI cZ cW cJ) s) (hP : va_P D vwCl w H) (hD : va_D A w) (hS : va_S A s.heap H locs) (hA : ∀ q : Nat, s.heap.size ≤ q → A q) {n : Int32} {N : Nat} (hn : ¬ n < 0) (hN : n.toNatClampNeg = N) (hbytes : N * 4 ≤ 536870912) (hcells : cells + 1 ≤ R.cells) (hslots : slots + N ≤ R.slots) (hdg : decode cc pc = .ok (.anewarray index, 3))
    (kk : ∀ (q : Nat) (H1 : Heap), va_P D vwCl (aW cW q N (fun _ => none) :: w) H1 → va_D A (aW cW q N (fun _ => none) :: w) → va_S A s.heap H1 locs → W p l e R s m args below meth c H1 locs (cells + 1) (slots + N) Q (F0 m (pc + 3) ls (.ref q :: rest))) : W p l e R s m args below meth c H locs cells slots Q (F0 m pc ls (.int n :: rest)) := by
  refine va_newq hexec hb hown hcl hAO hK hP hD hS hA hn hN hbytes hcells hslots hdg (fun q cA H1 hK1 hP1 hD1 hS1 => ?_)
  obtain ⟨-, -, -, -, -, h1⟩ : va_RA s cW (.object "LedgeLeaps$World") := (hK.2 2 (cW, .object "LedgeLeaps$World") rfl).2
  obtain ⟨-, -, -, -, -, h2⟩ : va_RA s cA (.object "LedgeLeaps$World") := (hK1.2 4 (cA, .object "LedgeLeaps$World") rfl).2
  obtain rfl : cA = cW := Option.some.inj (h2.symm.trans h1)
  obtain ⟨hP2, hD2⟩ := front hP1 hD1
  exact kk q H1 hP2 hD2 hS1
theorem nwO {T : u_T} {N ci : Nat} (hexec : p.tables.exec = Jvm.exec) (hb : c.code = cc) (hts : ∀ w ∈ Ts, w.before args s = true) (hin : ∀ w ∈ u_ws C T N, w ∈ Ts) (tyx : Nat → FieldType) (hty : ∀ k, k < N → parseFieldDescriptor (T k).2.2.1 = some (tyx k)) (hown : s.vm.findClass own = some m.cls) (hcl : (Cond.classLink own index C).before args s = true) (hinst : (Cond.instantiable C N).before args s = true) (hini : (Cond.initialized C).before args s = true)
    (hK : va_K D vwCl (tyL cI cZ cW cJ) s) (hP : va_P D vwCl w H) (hD : va_D A w) (hS : va_S A s.heap H locs) (hA : ∀ q : Nat, s.heap.size ≤ q → A q) (hc : vwCl[ci]? = some (C, T, N)) {fs : List Value} (hfs : ∀ j, j < N → defaultValue (tyx j) = vp_V fs j) (hcells : cells + 1 ≤ R.cells) (hslots : slots + N ≤ R.slots) (hdg : decode cc pc = .ok (.new index, 3))
    (kk : ∀ (q : Nat) (H1 : Heap), va_P D vwCl ((q, .inr (ci, fs)) :: w) H1 → va_D A ((q, .inr (ci, fs)) :: w) → va_S A s.heap H1 locs → W p l e R s m args below meth c H1 locs (cells + 1) (slots + N) Q (F0 m (pc + 3) ls (.ref q :: rest))) : W p l e R s m args below meth c H locs cells slots Q (F0 m pc ls rest) := by
  refine va_new hexec hb hts hin tyx hty hown hcl hinst hini hK hP hD hS hA hc hfs hcells hslots hdg (fun q H1 hP1 hD1 hS1 => ?_)
  obtain ⟨hP2, hD2⟩ := front hP1 hD1
  exact kk q H1 hP2 hD2 hS1
def wo (D : va_G) (ty : List (ClassId × FieldType)) (A : Nat → Prop) (ws : va_W) (U : State) : Prop := wd D ty A ws U ∧ va_AO RX7 U
theorem wo_blind {av : List Value} {ws : va_W} : FrameBlind (va_Pc av (wo D ty A ws)) := fun a U g mk q => ⟨q.1, (wd_blind (av := av) a U g mk ⟨q.1, q.2.1⟩).2, va_AO.moved (u := U) (U := U.calling g mk a) (Vm.Alike.refl U.vm) q.2.2⟩
theorem cI_v {S : Type} {post : S → Prop} {wc' : S → va_W} (CF : CallFix p m c cc nL s args Ts own) (hK : va_K D vwCl ty s) (hN : NS s) (hA : ∀ q : Nat, s.heap.size ≤ q → A q) (hS : va_S A s.heap H locs) (hC : cutw D A w wc H)
    (hM : Met l y wsy rm (va_Pc (.ref b :: As) (wd D ty A wc)) (va_Qv post (fun u t => wq D A (wc' u) t) A) mc ms A) (cw : CallB R s args own index y bytes maxL none wsy rm mc ms n ∧ y.name = "<init>" ∧ (Cond.instanceMethod y).before args s = true)
    (hn : As.length = n) (hsize : ls.size = nL) (hstack : st0 = As.reverse ++ .ref b :: rest) (hW : (rest.map fun v => v.category).sum ≤ 8) (hdg : decode cc pc = .ok (.invokespecial index, 3)) (hf : cells + mc ≤ R.cells ∧ slots + ms ≤ R.slots)
    (kk : ∀ (u : S) (H1 : Heap) (locs1 : List Loc), post u → va_P D vwCl (wc' u) H1 → va_D A (wc' u) → va_S A s.heap H1 locs1 → W p l e R s m args below meth c H1 locs1 (cells + mc) (slots + ms) Q (F0 m (pc + 3) ls rest)) : W p l e R s m args below meth c H locs cells slots Q (F0 m pc ls st0) :=
  va_callv (va_runI (g := F0 m pc ls st0) CF hM cw ⟨wd_blind, fun U hU hW2 => ⟨rfl, wd_of hK hN hA hC.1 hC.2 hS hU hW2⟩⟩ rfl hn hsize hstack (lv_room hW) hdg hf) hS (fun _ _ h => h) (fun _ h => h)
    (fun u t H1 locs1 ht _ hp hB _ _ hS1 => kk u H1 locs1 hp (ht ▸ hB.1) hB.2 hS1)
theorem cI_vo {S : Type} {post : S → Prop} {wc' : S → va_W} (hAO : va_AO RX7 s) (CF : CallFix p m c cc nL s args Ts own) (hK : va_K D vwCl ty s) (hN : NS s) (hA : ∀ q : Nat, s.heap.size ≤ q → A q) (hS : va_S A s.heap H locs) (hC : cutw D A w wc H)
    (hM : Met l y wsy rm (va_Pc (.ref b :: As) (wo D ty A wc)) (va_Qv post (fun u t => wq D A (wc' u) t) A) mc ms A) (cw : CallB R s args own index y bytes maxL none wsy rm mc ms n ∧ y.name = "<init>" ∧ (Cond.instanceMethod y).before args s = true)
    (hn : As.length = n) (hsize : ls.size = nL) (hstack : st0 = As.reverse ++ .ref b :: rest) (hW : (rest.map fun v => v.category).sum ≤ 8) (hdg : decode cc pc = .ok (.invokespecial index, 3)) (hf : cells + mc ≤ R.cells ∧ slots + ms ≤ R.slots)
    (kk : ∀ (u : S) (H1 : Heap) (locs1 : List Loc), post u → va_P D vwCl (wc' u) H1 → va_D A (wc' u) → va_S A s.heap H1 locs1 → W p l e R s m args below meth c H1 locs1 (cells + mc) (slots + ms) Q (F0 m (pc + 3) ls rest)) : W p l e R s m args below meth c H locs cells slots Q (F0 m pc ls st0) :=
  va_callv (va_runI (g := F0 m pc ls st0) CF hM cw ⟨wo_blind, fun U hU hW2 => ⟨rfl, wd_of hK hN hA hC.1 hC.2 hS hU hW2, hAO.moved hW2.alike⟩⟩ rfl hn hsize hstack (lv_room hW) hdg hf) hS (fun _ _ h => h) (fun _ h => h)
    (fun u t H1 locs1 ht _ hp hB _ _ hS1 => kk u H1 locs1 hp (ht ▸ hB.1) hB.2 hS1)
theorem cIN_v {S : Type} {post : S → Prop} {wc' : S → va_W} (CF : CallFix p m c cc nL s args Ts own) (hK : va_K D vwCl ty s) (hN : NS s) (hA : ∀ q : Nat, s.heap.size ≤ q → A q) (hS : va_S A s.heap H locs) (hC : cutw D A w wc H)
    (hM : Met l y wsy rm (va_Pc (.ref b :: As) (wd D ty A wc)) (va_Qv post (fun u t => wq D A (wc' u) t) A) mc ms A) (cw : va_CN R s args own index y host bytes maxL none wsy rm mc ms n ∧ y.name = "<init>" ∧ (Cond.instanceMethod y).before args s = true)
    (hn : As.length = n) (hsize : ls.size = nL) (hstack : st0 = As.reverse ++ .ref b :: rest) (hW : (rest.map fun v => v.category).sum ≤ 8) (hdg : decode cc pc = .ok (.invokespecial index, 3)) (hf : cells + mc ≤ R.cells ∧ slots + ms ≤ R.slots)
    (kk : ∀ (u : S) (H1 : Heap) (locs1 : List Loc), post u → va_P D vwCl (wc' u) H1 → va_D A (wc' u) → va_S A s.heap H1 locs1 → W p l e R s m args below meth c H1 locs1 (cells + mc) (slots + ms) Q (F0 m (pc + 3) ls rest)) : W p l e R s m args below meth c H locs cells slots Q (F0 m pc ls st0) :=
  va_callv (va_runIN (g := F0 m pc ls st0) CF hM cw ⟨wd_blind, fun U hU hW2 => ⟨rfl, wd_of hK hN hA hC.1 hC.2 hS hU hW2⟩⟩ rfl hn hsize hstack (lv_room hW) hdg hf) hS (fun _ _ h => h) (fun _ h => h)
    (fun u t H1 locs1 ht _ hp hB _ _ hS1 => kk u H1 locs1 hp (ht ▸ hB.1) hB.2 hS1)
end New63
def set0 : Nat → Int32 := upd (upd (upd (fun _ => 0) 0 2) 1 3) 2 1
def one0 : Nat → Int32 := upd (upd (upd (fun _ => 0) 20 2) 21 3) 22 1
/-- the start -/
def S0 : KS := (fun _ _ => false, (2, 3, 1), (0, 0), 0, 0, 0)
theorem AbsX.zero : AbsX S0 (fun _ => 0) set0 0 0 0 0 0 := ⟨fun j hj => ⟨0, by decide, rfl, fun i hi => Nat.zero_testBit i⟩, ⟨by decide, by decide, by decide⟩, ⟨rfl, rfl⟩, rfl, rfl, rfl⟩
theorem Wf_S0 : Wf S0 := ⟨⟨2, 3, 1, ⟨by decide, by decide⟩, ⟨by decide, by decide⟩, ⟨by decide, by decide⟩, rfl, rfl, rfl⟩, by decide, by decide, by decide +kernel⟩
def ix6 {α : Type} (a b c d e f : α) (i : Nat) : α := if i = 0 then a else if i = 1 then b else if i = 2 then c else if i = 3 then d else if i = 4 then e else f
def ix2 {α : Type} (a b : α) (i : Nat) : α := if i = 0 then a else b
theorem HistR.nil {cI cW : ClassId} {hv : Nat} (hist : Nat → KS) (a b c d e f a1 b1 c1 d1 e1 f1 a2 b2 c2 d2 e2 f2 : Nat) : HistR cI cW hv hist 0
    (aW cW hv 6 (va_up (va_up (va_up (va_up (va_up (va_up (fun _ => none) 0 (some a)) 1 (some b)) 2 (some c)) 3 (some d)) 4 (some e)) 5 (some f)) :: oX7 a a1 a2 0 0 0 0 0 :: aI cI a1 10 (fun _ => 0) :: aI cI a2 3 set0 :: oX7 b b1 b2 0 0 0 0 0 :: aI cI b1 10 (fun _ => 0) :: aI cI b2 3 set0 :: oX7 c c1 c2 0 0 0 0 0 :: aI cI c1 10 (fun _ => 0) :: aI cI c2 3 set0 :: oX7 d d1 d2 0 0 0 0 0 :: aI cI d1 10 (fun _ => 0) :: aI cI d2 3 set0 :: oX7 e e1 e2 0 0 0 0 0 :: aI cI e1 10 (fun _ => 0) :: aI cI e2 3 set0 :: oX7 f f1 f2 0 0 0 0 0 :: aI cI f1 10 (fun _ => 0) :: aI cI f2 3 set0 :: []) := by
  refine ⟨_, ix6 a b c d e f, ix6 a1 b1 c1 d1 e1 f1, ix6 a2 b2 c2 d2 e2 f2, fun _ _ => 0, fun _ => set0, fun _ => 0, fun _ => 0, fun _ => 0, fun _ => 0, fun _ => 0, rfl, fun i hi => ?_, by decide, fun i hi => absurd hi (Nat.not_lt_zero _)⟩
  rcases (show i = 0 ∨ i = 1 ∨ i = 2 ∨ i = 3 ∨ i = 4 ∨ i = 5 by omega) with rfl | rfl | rfl | rfl | rfl | rfl <;> rfl
theorem SnapR.nil {cI cZ cW : ClassId} {kv kt : Nat} (slot : Nat → KS) (a b a1 b1 a2 b2 : Nat) : SnapR cI cZ cW kv kt slot (fun _ => false)
    (aW cW kv 2 (va_up (va_up (fun _ => none) 0 (some a)) 1 (some b)) :: aZ cZ kt 2 (fun _ => 0) :: oX7 a a1 a2 0 0 0 0 0 :: aI cI a1 10 (fun _ => 0) :: aI cI a2 3 set0 :: oX7 b b1 b2 0 0 0 0 0 :: aI cI b1 10 (fun _ => 0) :: aI cI b2 3 set0 :: []) := by
  refine ⟨_, fun _ => 0, ix2 a b, ix2 a1 b1, ix2 a2 b2, fun _ _ => 0, fun _ => set0, fun _ => 0, fun _ => 0, fun _ => 0, fun _ => 0, fun _ => 0, rfl, fun i hi => ?_, fun _ _ => rfl, fun i hi q => by cases q⟩
  rcases (show i = 0 ∨ i = 1 by omega) with rfl | rfl <;> rfl
theorem CachK.nil {B : Int32 → Int32 → Bool} {a f s : Int32} {ms : Int32} {ro fi le lo : Nat → Int32} {rs : Int32} {lr og sp : Nat → Int32} {rt : Int32} {ta : Nat → Int32} : CachK B a f s false false ms ro fi le lo rs lr og sp rt ta := ⟨(fun q => by cases q), (fun q => by cases q)⟩
