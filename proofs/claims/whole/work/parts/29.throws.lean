/-! throws: what they need of the start, their rows, calls of what throws -/
def strW : List (Nat × String) := [(71, "no such cell"), (88, "no such setting"), (100, "value out of range"), (116, "no such side"), (125, "no such leap"), (149, "no such character"), (157, "the buffer is full"), (177, "the buffer does not tell orders"), (194, "no such slot"), (206, "no snapshot in the slot"), (214, "no saved state"), (219, "no such number of a cell"), (226, "no such ledge"), (228, "no such number of a ledge"), (236, "no such count"), (244, "no such arc"), (256, "argument out of range"), (272, "rank below 0")]
def badW : List Cond := [.declares (⟨"java/lang/RuntimeException", "<init>", "(Ljava/lang/String;)V"⟩ : MethodName), .declares (⟨"java/lang/Exception", "<init>", "(Ljava/lang/String;)V"⟩ : MethodName), .declares (⟨"java/lang/Throwable", "<init>", "(Ljava/lang/String;)V"⟩ : MethodName), .castable "java/lang/IndexOutOfBoundsException" "java/lang/IndexOutOfBoundsException", .castable "java/lang/IllegalArgumentException" "java/lang/IllegalArgumentException", .castable "java/lang/IllegalStateException" "java/lang/IllegalStateException"]
def ncW : List (String × String) := [("java/lang/IndexOutOfBoundsException", "java/lang/IllegalArgumentException"), ("java/lang/IllegalArgumentException", "java/lang/IndexOutOfBoundsException"), ("java/lang/IllegalArgumentException", "java/lang/IllegalStateException"), ("java/lang/IllegalStateException", "java/lang/IllegalArgumentException")]
/-- what a throw needs of the state -/
def XF (A : Nat → Prop) (U : State) : Prop := (∀ q ∈ strW, ∃ sa : Nat, vk_R RX8 q.1 q.2 sa U) ∧ (∀ w ∈ badW, va_Nw w U) ∧ (∀ q ∈ ncW, va_Nc q.1 q.2 U) ∧ vx_Zq Bundle.tN "UNASSIGNED_STACK" Bundle.steD A U U.heap ∧ vx_Zq Bundle.tN "SUPPRESSED_SENTINEL" Bundle.listD A U U.heap
theorem bad_ot : ∀ w ∈ badW, w.onTables = true := by decide
theorem XF.to {A : Nat → Prop} {s U : State} (h : XF A s) (hW : s.WarmedH U.vm) (hk : ∀ a : Nat, a < s.heap.size → ¬ A a → U.heap[a]? = s.heap[a]?) : XF A U := by
  obtain ⟨h1, h2, h3, h4, h5⟩ := h
  refine ⟨fun q hq => ?_, fun w hw => ?_, fun q hq => (h3 q hq).moved hW.alike, (h4.kept hk).moved hW.alike, (h5.kept hk).moved hW.alike⟩
  · obtain ⟨sa, h⟩ := h1 q hq
    exact ⟨sa, h.warm hW⟩
  · have h := h2 w hw
    simp only [badW, List.mem_cons, List.not_mem_nil, or_false] at hw
    rcases hw with rfl | rfl | rfl | rfl | rfl | rfl
    · exact va_Nw.warmD hW h
    · exact va_Nw.warmD hW h
    · exact va_Nw.warmD hW h
    · exact va_Nw.warmC hW h
    · exact va_Nw.warmC hW h
    · exact va_Nw.warmC hW h
theorem XF.same {A : Nat → Prop} {s U : State} (h : XF A s) (hv : s.vm = U.vm) (hh : U.heap = s.heap) : XF A U := by
  obtain ⟨h1, h2, h3, h4, h5⟩ := h
  refine ⟨fun q hq => ?_, fun w hw => va_Nw.same (bad_ot w hw) hv (h2 w hw), fun q hq => (h3 q hq).moved (by rw [hv]; exact Vm.Alike.refl _), ?_, ?_⟩
  · obtain ⟨sa, h⟩ := h1 q hq
    exact ⟨sa, h.same hv.symm⟩
  · rw [hh]; exact h4.moved (by rw [hv]; exact Vm.Alike.refl _)
  · rw [hh]; exact h5.moved (by rw [hv]; exact Vm.Alike.refl _)
def wx (D : va_G) (ty : List (ClassId × FieldType)) (A : Nat → Prop) (ws : va_W) (U : State) : Prop := wd D ty A ws U ∧ XF A U
theorem wx_blind {D : va_G} {ty : List (ClassId × FieldType)} {A : Nat → Prop} {ws : va_W} {av : List Value} : FrameBlind (va_Pc av (wx D ty A ws)) := fun a U g mk q => ⟨q.1, (wd_blind (av := av) a U g mk ⟨q.1, q.2.1⟩).2, q.2.2.same rfl rfl⟩
/-- what a throw leaves: the world as it was, and why -/
def XT (D : va_G) (A : Nat → Prop) (ws : va_W) (PE : String → Prop) : String → State → State → Prop := vx_X (fun _ : Unit => True) (fun E _ t => PE E ∧ wq D A ws t) A
theorem bad_IO : ∀ w ∈ (vx_atS RX8 73 "java/lang/IndexOutOfBoundsException" ["java/lang/RuntimeException", "java/lang/Exception"]).filter (fun w => !goodWord w), w ∈ badW := by decide +kernel
theorem good_IO (ik : Nat) : ∀ w ∈ Cond.classLink RX8 ik "java/lang/IndexOutOfBoundsException" :: Cond.initialized "java/lang/IndexOutOfBoundsException" :: vx_atS RX8 73 "java/lang/IndexOutOfBoundsException" ["java/lang/RuntimeException", "java/lang/Exception"], vx_ot w = true := by
  intro w hw
  rcases List.mem_cons.mp hw with rfl | hw
  · rfl
  · rcases List.mem_cons.mp hw with rfl | hw
    · rfl
    · exact (show ∀ w ∈ vx_atS RX8 73 "java/lang/IndexOutOfBoundsException" ["java/lang/RuntimeException", "java/lang/Exception"], vx_ot w = true by decide +kernel) w hw
theorem bad_IA : ∀ w ∈ (vx_atS RX8 102 "java/lang/IllegalArgumentException" ["java/lang/RuntimeException", "java/lang/Exception"]).filter (fun w => !goodWord w), w ∈ badW := by decide +kernel
theorem good_IA (ik : Nat) : ∀ w ∈ Cond.classLink RX8 ik "java/lang/IllegalArgumentException" :: Cond.initialized "java/lang/IllegalArgumentException" :: vx_atS RX8 102 "java/lang/IllegalArgumentException" ["java/lang/RuntimeException", "java/lang/Exception"], vx_ot w = true := by
  intro w hw
  rcases List.mem_cons.mp hw with rfl | hw
  · rfl
  · rcases List.mem_cons.mp hw with rfl | hw
    · rfl
    · exact (show ∀ w ∈ vx_atS RX8 102 "java/lang/IllegalArgumentException" ["java/lang/RuntimeException", "java/lang/Exception"], vx_ot w = true by decide +kernel) w hw
theorem bad_IS : ∀ w ∈ (vx_atS RX8 159 "java/lang/IllegalStateException" ["java/lang/RuntimeException", "java/lang/Exception"]).filter (fun w => !goodWord w), w ∈ badW := by decide +kernel
theorem good_IS (ik : Nat) : ∀ w ∈ Cond.classLink RX8 ik "java/lang/IllegalStateException" :: Cond.initialized "java/lang/IllegalStateException" :: vx_atS RX8 159 "java/lang/IllegalStateException" ["java/lang/RuntimeException", "java/lang/Exception"], vx_ot w = true := by
  intro w hw
  rcases List.mem_cons.mp hw with rfl | hw
  · rfl
  · rcases List.mem_cons.mp hw with rfl | hw
    · rfl
    · exact (show ∀ w ∈ vx_atS RX8 159 "java/lang/IllegalStateException" ["java/lang/RuntimeException", "java/lang/Exception"], vx_ot w = true by decide +kernel) w hw
section Throws29
variable {p : Program} {l : Launch} {e : Env} {R : Room} {s : State} {m : MethodId} {args : Array Value} {below : List Frame} {meth : Method} {c : Code} {H : Heap} {locs : List Loc} {cells slots : Nat} {Q : State → Prop}
variable {cc : ByteArray} {pc : Nat} {ls : Array Slot} {rest st0 : List Value}
variable {y : MethodName} {bytes : ByteArray} {maxL nL mc ms n index : Nat} {ret : Option FieldType} {wsy : List Cond} {rm : Room} {Ts : List Cond} {own C host : String} {b : Addr} {As : List Value} {D : va_G} {ty : List (ClassId × FieldType)} {A : Nat → Prop} {w wc : va_W}
theorem xt_of {PE : String → Prop} {E : String} {t : State} (hP : va_P D vwCl w H) (hD : va_D A w) (hS : va_S A s.heap H locs) (hE : PE E) (h1 : H.size ≤ t.heap.size) (h2 : ∀ q : Nat, q < H.size → t.heap[q]? = H[q]?) : XT D A w PE E s t :=
  ⟨(), trivial, ⟨hE, hP.kept (fun k q hk => h2 q.1 (hP k q hk).lt), hD⟩, Nat.le_trans hS.1 h1, fun q hq hn => by rw [h2 q (Nat.lt_of_lt_of_le hq hS.1)]; exact hS.2.1 q hq hn⟩
theorem bad_at {L : List Cond} (hb : ∀ w ∈ L.filter (fun w => !goodWord w), w ∈ badW) (hg : ∀ w ∈ L.filter goodWord, w.before args s = true) (hX : XF A s) : ∀ w ∈ L, w.before args s = true :=
  vx_hat hg hb (fun w hw => va_Nw.use (bad_ot w hw) (hX.2.1 w hw))
theorem thr_S {cls text : String} {ik is ic : Nat} {PE : String → Prop} {Qc : Array Value → State → Outcome → State → Prop} (hexec : p.tables.exec = Jvm.exec) (hb : c.code = cc) (hl : l.stackTraces = false) (hown : s.vm.findClass RX8 = some m.cls) (hcls : Bundle.fit cls = true)
    (hk : (Cond.classLink RX8 ik cls).before args s = true) (hini : (Cond.initialized cls).before args s = true) (hstr : (is, text) ∈ strW) (hbad : ∀ w ∈ (vx_atS RX8 ic cls ["java/lang/RuntimeException", "java/lang/Exception"]).filter (fun w => !goodWord w), w ∈ badW) (hg : ∀ w ∈ (vx_atS RX8 ic cls ["java/lang/RuntimeException", "java/lang/Exception"]).filter goodWord, w.before args s = true)
    (hgood : ∀ w ∈ Cond.classLink RX8 ik cls :: Cond.initialized cls :: vx_atS RX8 ic cls ["java/lang/RuntimeException", "java/lang/Exception"], vx_ot w = true) (hX : XF A s) (hP : va_P D vwCl w H) (hD : va_D A w) (hS : va_S A s.heap H locs) (hsize : ls.size = c.maxLocals)
    (d0 : decode cc pc = .ok (.new ik, 3)) (d3 : decode cc (pc + 3) = .ok (.dup, 1)) (d4 : decode cc (pc + 4) = .ok (.ldc is, 2)) (d6 : decode cc (pc + 6) = .ok (.invokespecial ic, 3)) (d9 : decode cc (pc + 9) = .ok (.athrow, 1))
    (hno : ∀ x ∈ c.exceptionTable.toList, False) (hRf : 5 < R.frames) (hRl : (rest.map fun v => v.category).sum + 82 ≤ R.locals) (hRc : cells + 1 ≤ R.cells) (hRs : slots + 6 ≤ R.slots) (hlocks : meth.locks = false) (hc1 : cells + 1 ≤ 1) (hc2 : slots + 6 ≤ 6) (hE : PE cls) :
    W p l e R s m args below meth c H locs cells slots (vx_MQ below Qc (XT D A w PE) args s 1 6 A) (F0 m pc ls rest) := by
  obtain ⟨sa, hstr2⟩ := hX.1 _ hstr
  exact vx_throwS hexec hb hl hown hcls (by decide +kernel) hk hini hstr2 (bad_at hbad hg hX) hgood hX.2.2.2.1 hX.2.2.2.2 hS hsize d0 d3 d4 d6 d9 (fun x hx => (hno x hx).elim) hRf hRl hRc hRs hlocks (fun t _ h1 h2 => xt_of hP hD hS hE h1 h2) hS.2.2 hc1 hc2
end Throws29
