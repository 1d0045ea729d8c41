/-! the buffer and its orders -/
def digX (c : Int32) : Bool := if c < 48 then false else if 57 < c then false else true
def sgnX (c : Int32) : Bool := if c = 43 then true else if c = 45 then true else false
def exK (c : Int32) : Int32 := if c = 98 then 1 else if c = 108 then 6 else if c = 119 then 5 else -1
def exX (e c : Int32) : Int32 := if e = 0 then exK c else if e = 1 then (if c = 49 then 2 else if digX c = true then 3 else -1) else if e = 2 then (if c = 44 then 4 else if digX c = true then 3 else -1) else if e = 3 then (if c = 44 then 4 else -1) else if e = 4 then (if digX c = true then 8 else -1) else if e = 5 then (if sgnX c = true then 8 else -1) else if e = 6 then (if sgnX c = true then 7 else -1) else if e = 7 then (if isRunX (c - 48) = true then 8 else -1) else if e = 8 then (if c = 59 then 0 else -1) else -1
def fullX (n : Int32) : Bool := if n < 60 then false else true
def tellX (e : Int32) : Bool := if e = 8 then true else false
def numF (co : Nat → Int32) (n : Nat) : Nat → Nat → Int32 → Int32 × Nat
  | 0, p, a => (a, p)
  | f + 1, p, a => if p < n then (if digX (co p) = true then numF co n f (p + 1) (10 * a + co p - 48) else (a, p)) else (a, p)
set_option maxHeartbeats 4000000 in
set_option maxRecDepth 100000 in
theorem m_isFull (l : Launch) (D : va_G) (cI cZ cW cJ : ClassId) (A : Nat → Prop) (X : va_W) (tx tco : Nat) (tl to tc tr ts tu te twp tp : Int32) : Met l yX3_isFull wsX3_isFull ({ frames := 0, cells := 0, slots := 0, locals := 0 }) (va_Pc [.ref tx] (wd D (tyL cI cZ cW cJ) A (oX3 tx tl to tc tr ts tu tco te twp tp :: X))) (va_Qi (fun (r : Int32) (u : Unit) => r = bI (fullX tl)) (fun (u : Unit) t => wq D A (oX3 tx tl to tc tr ts tu tco te twp tp :: X) t) A) 0 0 A := by
  refine Met.ofW (cc := cX3_isFull) (maxL := 1) (ret := (some .boolean)) (by decide) rfl ?_
  intro p e s m args below meth c s₁ B hml hv
  obtain ⟨rfl, hsz9, hP, hK, hD, hN⟩ := hv
  have hx := B.exec
  have hb := B.bytes
  have hr := B.returns
  have hts := atoms_spec (ws := wsX3_isFull) B.pre
  have hown : s.vm.findClass RX3 = some m.cls := findClass_of_methodNamed B.named
  have hlocks := B.notSynchronized
  have CF : CallFix p m c cX3_isFull 1 s _ wsX3_isFull RX3 := ⟨hx, hb, hml, hown, hts⟩
  have hA : ∀ q : Nat, s.heap.size ≤ q → A q := hsz9
  have hS : va_S A s.heap s.heap [] := va_S.rf
  have hiX3 : ∀ w ∈ u_ws RX3 TX3 10, w ∈ wsX3_isFull := fun _ h => List.mem_cons_of_mem _ (List.mem_append_right _ (h))
  have hl := lv_entry ([.ref tx]) (n := 1) (Nat.le_of_ble_eq_true rfl)
  rw [lg_entry_eq]
  generalize (lg_sl ([.ref tx]) ++ List.replicate (1 - (lg_sl ([.ref tx])).length) Slot.unset).toArray = ls at hl ⊢
  have hl : lv_has ls 1 [(0, .ref tx)] := hl
  show W p l e ({ frames := 0, cells := 0, slots := 0, locals := 0 } : Room) s m (([.ref tx] : List Value).toArray) below meth c s.heap [] 0 0 (MQ below (va_Qi (fun (r : Int32) (u : Unit) => r = bI (fullX tl)) (fun (u : Unit) t => wq D A (oX3 tx tl to tc tr ts tu tco te twp tp :: X) t) A) (([.ref tx] : List Value).toArray) s 0 0 A) (F0 m 0 ls [])
  refine lv_aload_n hx hb dX3_isFull_0 rfl (lv_at hl 0 rfl) ?_
  refine va_get (D := D) (ci := 3) (v := .int tl) (C := RX3) (T := TX3) (N := 10) hx hb hts hiX3 hown hK hP 0 rfl rfl 0 (by decide) (hts (.fieldLink RX3 19 "LedgeLeaps$OrderText" "length" "I") (List.mem_of_getElem? (i := 1) rfl)) (fun _ h9 => h9) rfl dX3_isFull_1 ?_
  refine lv_bipush (v := 60) hx hb dX3_isFull_4 (by decide) ?_
  refine lv_icmp_lt (tgt := 13) hx hb dX3_isFull_6 (by decide) (fun c_6 => ?_) (fun c_6 => ?_)
  · refine lv_iconst (v := 0) hx hb dX3_isFull_13 (by decide) ?_
    exact W.zret (v := 0) (ty := .boolean) hx hb hr (rfl) (fun t9 ht9 hW9 => ⟨⟨0, (), rfl, by simp [bI, fullX, c_6], by rw [ht9]; exact hP, hD⟩, hS.F ht9⟩) hS.2.2 dX3_isFull_14
  · refine lv_iconst (v := 1) hx hb dX3_isFull_9 (by decide) ?_
    refine lv_goto (tgt := 14) hx hb dX3_isFull_10 (by decide) ?_
    exact W.zret (v := 1) (ty := .boolean) hx hb hr (rfl) (fun t9 ht9 hW9 => ⟨⟨1, (), rfl, by simp [bI, fullX, c_6], by rw [ht9]; exact hP, hD⟩, hS.F ht9⟩) hS.2.2 dX3_isFull_14
set_option maxHeartbeats 4000000 in
set_option maxRecDepth 100000 in
theorem m_isDigit (l : Launch) (D : va_G) (cI cZ cW cJ : ClassId) (A : Nat → Prop) (X : va_W) (xa : Int32) : Met l yX3_isDigit wsX3_isDigit ({ frames := 0, cells := 0, slots := 0, locals := 0 }) (va_Pc [.int xa] (wd D (tyL cI cZ cW cJ) A (X))) (va_Qi (fun (r : Int32) (u : Unit) => r = bI (digX xa)) (fun (u : Unit) t => wq D A (X) t) A) 0 0 A := by
  refine Met.ofW (cc := cX3_isDigit) (maxL := 1) (ret := (some .boolean)) (by decide) rfl ?_
  intro p e s m args below meth c s₁ B hml hv
  obtain ⟨rfl, hsz9, hP, hK, hD, hN⟩ := hv
  have hx := B.exec
  have hb := B.bytes
  have hr := B.returns
  have hts := atoms_spec (ws := wsX3_isDigit) B.pre
  have hown : s.vm.findClass RX3 = some m.cls := findClass_of_methodNamed B.named
  have hlocks := B.notSynchronized
  have CF : CallFix p m c cX3_isDigit 1 s _ wsX3_isDigit RX3 := ⟨hx, hb, hml, hown, hts⟩
  have hA : ∀ q : Nat, s.heap.size ≤ q → A q := hsz9
  have hS : va_S A s.heap s.heap [] := va_S.rf
  have hl := lv_entry ([.int xa]) (n := 1) (Nat.le_of_ble_eq_true rfl)
  rw [lg_entry_eq]
  generalize (lg_sl ([.int xa]) ++ List.replicate (1 - (lg_sl ([.int xa])).length) Slot.unset).toArray = ls at hl ⊢
  have hl : lv_has ls 1 [(0, .int xa)] := hl
  show W p l e ({ frames := 0, cells := 0, slots := 0, locals := 0 } : Room) s m (([.int xa] : List Value).toArray) below meth c s.heap [] 0 0 (MQ below (va_Qi (fun (r : Int32) (u : Unit) => r = bI (digX xa)) (fun (u : Unit) t => wq D A (X) t) A) (([.int xa] : List Value).toArray) s 0 0 A) (F0 m 0 ls [])
  refine lv_iload_n hx hb dX3_isDigit_0 rfl (lv_at hl 0 rfl) ?_
  refine lv_bipush (v := 48) hx hb dX3_isDigit_1 (by decide) ?_
  refine lv_icmp_lt (tgt := 16) hx hb dX3_isDigit_3 (by decide) (fun c_3 => ?_) (fun c_3 => ?_)
  · refine lv_iconst (v := 0) hx hb dX3_isDigit_16 (by decide) ?_
    exact W.zret (v := 0) (ty := .boolean) hx hb hr (rfl) (fun t9 ht9 hW9 => ⟨⟨0, (), rfl, by simp [bI, digX, c_3], by rw [ht9]; exact hP, hD⟩, hS.F ht9⟩) hS.2.2 dX3_isDigit_17
  · refine lv_iload_n hx hb dX3_isDigit_6 rfl (lv_at hl 0 rfl) ?_
    refine lv_bipush (v := 57) hx hb dX3_isDigit_7 (by decide) ?_
    refine lv_icmp_gt (tgt := 16) hx hb dX3_isDigit_9 (by decide) (fun c_9 => ?_) (fun c_9 => ?_)
    · refine lv_iconst (v := 0) hx hb dX3_isDigit_16 (by decide) ?_
      exact W.zret (v := 0) (ty := .boolean) hx hb hr (rfl) (fun t9 ht9 hW9 => ⟨⟨0, (), rfl, by simp [bI, digX, c_3, c_9], by rw [ht9]; exact hP, hD⟩, hS.F ht9⟩) hS.2.2 dX3_isDigit_17
    · refine lv_iconst (v := 1) hx hb dX3_isDigit_12 (by decide) ?_
      refine lv_goto (tgt := 17) hx hb dX3_isDigit_13 (by decide) ?_
      exact W.zret (v := 1) (ty := .boolean) hx hb hr (rfl) (fun t9 ht9 hW9 => ⟨⟨1, (), rfl, by simp [bI, digX, c_3, c_9], by rw [ht9]; exact hP, hD⟩, hS.F ht9⟩) hS.2.2 dX3_isDigit_17
set_option maxHeartbeats 4000000 in
set_option maxRecDepth 100000 in
theorem m_isSign (l : Launch) (D : va_G) (cI cZ cW cJ : ClassId) (A : Nat → Prop) (X : va_W) (xa : Int32) : Met l yX3_isSign wsX3_isSign ({ frames := 0, cells := 0, slots := 0, locals := 0 }) (va_Pc [.int xa] (wd D (tyL cI cZ cW cJ) A (X))) (va_Qi (fun (r : Int32) (u : Unit) => r = bI (sgnX xa)) (fun (u : Unit) t => wq D A (X) t) A) 0 0 A := by
  refine Met.ofW (cc := cX3_isSign) (maxL := 1) (ret := (some .boolean)) (by decide) rfl ?_
  intro p e s m args below meth c s₁ B hml hv
  obtain ⟨rfl, hsz9, hP, hK, hD, hN⟩ := hv
  have hx := B.exec
  have hb := B.bytes
  have hr := B.returns
  have hts := atoms_spec (ws := wsX3_isSign) B.pre
  have hown : s.vm.findClass RX3 = some m.cls := findClass_of_methodNamed B.named
  have hlocks := B.notSynchronized
  have CF : CallFix p m c cX3_isSign 1 s _ wsX3_isSign RX3 := ⟨hx, hb, hml, hown, hts⟩
  have hA : ∀ q : Nat, s.heap.size ≤ q → A q := hsz9
  have hS : va_S A s.heap s.heap [] := va_S.rf
  have hl := lv_entry ([.int xa]) (n := 1) (Nat.le_of_ble_eq_true rfl)
  rw [lg_entry_eq]
  generalize (lg_sl ([.int xa]) ++ List.replicate (1 - (lg_sl ([.int xa])).length) Slot.unset).toArray = ls at hl ⊢
  have hl : lv_has ls 1 [(0, .int xa)] := hl
  show W p l e ({ frames := 0, cells := 0, slots := 0, locals := 0 } : Room) s m (([.int xa] : List Value).toArray) below meth c s.heap [] 0 0 (MQ below (va_Qi (fun (r : Int32) (u : Unit) => r = bI (sgnX xa)) (fun (u : Unit) t => wq D A (X) t) A) (([.int xa] : List Value).toArray) s 0 0 A) (F0 m 0 ls [])
  refine lv_iload_n hx hb dX3_isSign_0 rfl (lv_at hl 0 rfl) ?_
  refine lv_bipush (v := 43) hx hb dX3_isSign_1 (by decide) ?_
  refine lv_icmp_eq (tgt := 12) hx hb dX3_isSign_3 (by decide) (fun c_3 => ?_) (fun c_3 => ?_)
  · refine lv_iconst (v := 1) hx hb dX3_isSign_12 (by decide) ?_
    refine lv_goto (tgt := 17) hx hb dX3_isSign_13 (by decide) ?_
    exact W.zret (v := 1) (ty := .boolean) hx hb hr (rfl) (fun t9 ht9 hW9 => ⟨⟨1, (), rfl, by simp [bI, sgnX, c_3], by rw [ht9]; exact hP, hD⟩, hS.F ht9⟩) hS.2.2 dX3_isSign_17
  · refine lv_iload_n hx hb dX3_isSign_6 rfl (lv_at hl 0 rfl) ?_
    refine lv_bipush (v := 45) hx hb dX3_isSign_7 (by decide) ?_
    refine lv_icmp_ne (tgt := 16) hx hb dX3_isSign_9 (by decide) (fun c_9 => ?_) (fun c_9 => ?_)
    · refine lv_iconst (v := 0) hx hb dX3_isSign_16 (by decide) ?_
      exact W.zret (v := 0) (ty := .boolean) hx hb hr (rfl) (fun t9 ht9 hW9 => ⟨⟨0, (), rfl, by simp [bI, sgnX, c_3, c_9], by rw [ht9]; exact hP, hD⟩, hS.F ht9⟩) hS.2.2 dX3_isSign_17
    · refine lv_iconst (v := 1) hx hb dX3_isSign_12 (by decide) ?_
      refine lv_goto (tgt := 17) hx hb dX3_isSign_13 (by decide) ?_
      exact W.zret (v := 1) (ty := .boolean) hx hb hr (rfl) (fun t9 ht9 hW9 => ⟨⟨1, (), rfl, by simp [bI, sgnX, c_3, c_9], by rw [ht9]; exact hP, hD⟩, hS.F ht9⟩) hS.2.2 dX3_isSign_17
set_option maxHeartbeats 4000000 in
set_option maxRecDepth 100000 in
theorem m_exK (l : Launch) (D : va_G) (cI cZ cW cJ : ClassId) (A : Nat → Prop) (X : va_W) (xa : Int32) : Met l yX3_expectedBehindKind wsX3_expectedBehindKind ({ frames := 0, cells := 0, slots := 0, locals := 0 }) (va_Pc [.int xa] (wd D (tyL cI cZ cW cJ) A (X))) (va_Qi (fun (r : Int32) (u : Unit) => r = exK xa) (fun (u : Unit) t => wq D A (X) t) A) 0 0 A := by
  refine Met.ofW (cc := cX3_expectedBehindKind) (maxL := 1) (ret := (some .int)) (by decide) rfl ?_
  intro p e s m args below meth c s₁ B hml hv
  obtain ⟨rfl, hsz9, hP, hK, hD, hN⟩ := hv
  have hx := B.exec
  have hb := B.bytes
  have hr := B.returns
  have hts := atoms_spec (ws := wsX3_expectedBehindKind) B.pre
  have hown : s.vm.findClass RX3 = some m.cls := findClass_of_methodNamed B.named
  have hlocks := B.notSynchronized
  have CF : CallFix p m c cX3_expectedBehindKind 1 s _ wsX3_expectedBehindKind RX3 := ⟨hx, hb, hml, hown, hts⟩
  have hA : ∀ q : Nat, s.heap.size ≤ q → A q := hsz9
  have hS : va_S A s.heap s.heap [] := va_S.rf
  have hl := lv_entry ([.int xa]) (n := 1) (Nat.le_of_ble_eq_true rfl)
  rw [lg_entry_eq]
  generalize (lg_sl ([.int xa]) ++ List.replicate (1 - (lg_sl ([.int xa])).length) Slot.unset).toArray = ls at hl ⊢
  have hl : lv_has ls 1 [(0, .int xa)] := hl
  show W p l e ({ frames := 0, cells := 0, slots := 0, locals := 0 } : Room) s m (([.int xa] : List Value).toArray) below meth c s.heap [] 0 0 (MQ below (va_Qi (fun (r : Int32) (u : Unit) => r = exK xa) (fun (u : Unit) t => wq D A (X) t) A) (([.int xa] : List Value).toArray) s 0 0 A) (F0 m 0 ls [])
  refine lv_iload_n hx hb dX3_expectedBehindKind_0 rfl (lv_at hl 0 rfl) ?_
  by_cases k_1_98 : xa = 98
  · refine top_i (y := 98) k_1_98 ?_
    refine lv_lookup (tgt := 36) (off := 35) hx hb dX3_expectedBehindKind_1 (by decide) (by decide) (by decide) ?_
    refine lv_iconst (v := 1) hx hb dX3_expectedBehindKind_36 (by decide) ?_
    exact W.iret (v := 1) hx hb hr (fun t9 ht9 hW9 => ⟨⟨1, (), rfl, by simp [exK, k_1_98], by rw [ht9]; exact hP, hD⟩, hS.F ht9⟩) hS.2.2 dX3_expectedBehindKind_37
  by_cases k_1_108 : xa = 108
  · refine top_i (y := 108) k_1_108 ?_
    refine lv_lookup (tgt := 40) (off := 39) hx hb dX3_expectedBehindKind_1 (by decide) (by decide) (by decide) ?_
    refine lv_bipush (v := 6) hx hb dX3_expectedBehindKind_40 (by decide) ?_
    exact W.iret (v := 6) hx hb hr (fun t9 ht9 hW9 => ⟨⟨6, (), rfl, by simp [exK, k_1_98, k_1_108], by rw [ht9]; exact hP, hD⟩, hS.F ht9⟩) hS.2.2 dX3_expectedBehindKind_42
  by_cases k_1_119 : xa = 119
  · refine top_i (y := 119) k_1_119 ?_
    refine lv_lookup (tgt := 38) (off := 37) hx hb dX3_expectedBehindKind_1 (by decide) (by decide) (by decide) ?_
    refine lv_iconst (v := 5) hx hb dX3_expectedBehindKind_38 (by decide) ?_
    exact W.iret (v := 5) hx hb hr (fun t9 ht9 hW9 => ⟨⟨5, (), rfl, by simp [exK, k_1_98, k_1_108, k_1_119], by rw [ht9]; exact hP, hD⟩, hS.F ht9⟩) hS.2.2 dX3_expectedBehindKind_39
  refine lv_lookup (tgt := 43) (off := 42) hx hb dX3_expectedBehindKind_1 (by decide) ((lv_osw k_1_98 rfl).trans ((lv_osw k_1_108 rfl).trans ((lv_osw k_1_119 rfl).trans rfl))) (by decide) ?_
  refine lv_iconst (v := (-1)) hx hb dX3_expectedBehindKind_43 (by decide) ?_
  exact W.iret (v := (-1)) hx hb hr (fun t9 ht9 hW9 => ⟨⟨(-1), (), rfl, by simp [exK, k_1_98, k_1_108, k_1_119], by rw [ht9]; exact hP, hD⟩, hS.F ht9⟩) hS.2.2 dX3_expectedBehindKind_44
set_option maxHeartbeats 4000000 in
set_option maxRecDepth 100000 in
theorem m_exX (l : Launch) (D : va_G) (cI cZ cW cJ : ClassId) (A : Nat → Prop) (X : va_W) (xe xa : Int32) : Met l yX3_expectedBehind wsX3_expectedBehind ({ frames := 1, cells := 0, slots := 0, locals := 20 }) (va_Pc [.int xe, .int xa] (wd D (tyL cI cZ cW cJ) A (X))) (va_Qi (fun (r : Int32) (u : Unit) => r = exX xe xa) (fun (u : Unit) t => wq D A (X) t) A) 0 0 A := by
  refine Met.ofW (cc := cX3_expectedBehind) (maxL := 2) (ret := (some .int)) (by decide) rfl ?_
  intro p e s m args below meth c s₁ B hml hv
  obtain ⟨rfl, hsz9, hP, hK, hD, hN⟩ := hv
  have hx := B.exec
  have hb := B.bytes
  have hr := B.returns
  have hts := atoms_spec (ws := wsX3_expectedBehind) B.pre
  have hown : s.vm.findClass RX3 = some m.cls := findClass_of_methodNamed B.named
  have hlocks := B.notSynchronized
  have CF : CallFix p m c cX3_expectedBehind 2 s _ wsX3_expectedBehind RX3 := ⟨hx, hb, hml, hown, hts⟩
  have hA : ∀ q : Nat, s.heap.size ≤ q → A q := hsz9
  have hS : va_S A s.heap s.heap [] := va_S.rf
  have hl := lv_entry ([.int xe, .int xa]) (n := 2) (Nat.le_of_ble_eq_true rfl)
  rw [lg_entry_eq]
  generalize (lg_sl ([.int xe, .int xa]) ++ List.replicate (2 - (lg_sl ([.int xe, .int xa])).length) Slot.unset).toArray = ls at hl ⊢
  have hl : lv_has ls 2 [(0, .int xe), (1, .int xa)] := hl
  show W p l e ({ frames := 1, cells := 0, slots := 0, locals := 20 } : Room) s m (([.int xe, .int xa] : List Value).toArray) below meth c s.heap [] 0 0 (MQ below (va_Qi (fun (r : Int32) (u : Unit) => r = exX xe xa) (fun (u : Unit) t => wq D A (X) t) A) (([.int xe, .int xa] : List Value).toArray) s 0 0 A) (F0 m 0 ls [])
  refine lv_iload_n hx hb dX3_expectedBehind_0 rfl (lv_at hl 0 rfl) ?_
  by_cases k_1_0 : xe = 0
  · refine top_i (y := 0) k_1_0 ?_
    refine lv_tableIn (tgt := 48) hx hb dX3_expectedBehind_1 (by decide) (by decide) rfl (by decide) ?_
    refine lv_iload_n hx hb dX3_expectedBehind_48 rfl (lv_at hl 1 rfl) ?_
    refine cS_i CF hK hN hA hS (cut_of 0 [] hP hD rfl rfl rfl) (m_exK l D cI cZ cW cJ A (X) xa) (va_cwS 1 hts gX3_expectedBehind_X3_expectedBehindKind rfl rfl rfl (by decide +kernel) ⟨Nat.le_of_ble_eq_true rfl, Nat.le_of_ble_eq_true rfl⟩) (As := [.int xa]) (rest := []) rfl hl.1 rfl (Nat.le_of_ble_eq_true rfl) dX3_expectedBehind_49 ⟨Nat.le_of_ble_eq_true rfl, Nat.le_of_ble_eq_true rfl⟩ (fun r_49 _ H locs hq hP hD hS => ?_)
    have hq : r_49 = exK xa := hq
    subst hq
    have hP : va_P D vwCl (X) H := pm_P hP 0 [] rfl
    have hD : va_D A (X) := pm_D hD 0 [] rfl rfl rfl
    exact W.iret (v := (exK xa)) hx hb hr (fun t9 ht9 hW9 => ⟨⟨(exK xa), (), rfl, by simp [exX, k_1_0], by rw [ht9]; exact hP, hD⟩, hS.F ht9⟩) hS.2.2 dX3_expectedBehind_52
  by_cases k_1_1 : xe = 1
  · refine top_i (y := 1) k_1_1 ?_
    refine lv_tableIn (tgt := 53) hx hb dX3_expectedBehind_1 (by decide) (by decide) rfl (by decide) ?_
    refine lv_iload_n hx hb dX3_expectedBehind_53 rfl (lv_at hl 1 rfl) ?_
    refine lv_bipush (v := 49) hx hb dX3_expectedBehind_54 (by decide) ?_
    refine lv_icmp_ne (tgt := 63) hx hb dX3_expectedBehind_56 (by decide) (fun c_56 => ?_) (fun c_56 => ?_)
    · refine lv_iload_n hx hb dX3_expectedBehind_63 rfl (lv_at hl 1 rfl) ?_
      refine cS_i CF hK hN hA hS (cut_of 0 [] hP hD rfl rfl rfl) (m_isDigit l D cI cZ cW cJ A (X) xa) (va_cwS 1 hts gX3_expectedBehind_X3_isDigit rfl rfl rfl (by decide +kernel) ⟨Nat.le_of_ble_eq_true rfl, Nat.le_of_ble_eq_true rfl⟩) (As := [.int xa]) (rest := []) rfl hl.1 rfl (Nat.le_of_ble_eq_true rfl) dX3_expectedBehind_64 ⟨Nat.le_of_ble_eq_true rfl, Nat.le_of_ble_eq_true rfl⟩ (fun r_64 _ H locs hq hP hD hS => ?_)
      have hq : r_64 = bI (digX xa) := hq
      subst hq
      have hP : va_P D vwCl (X) H := pm_P hP 0 [] rfl
      have hD : va_D A (X) := pm_D hD 0 [] rfl rfl rfl
      refine lv_if_eq (tgt := 74) hx hb dX3_expectedBehind_67 (by decide) (fun c_67 => ?_) (fun c_67 => ?_)
      · refine lv_iconst (v := (-1)) hx hb dX3_expectedBehind_74 (by decide) ?_
        exact W.iret (v := (-1)) hx hb hr (fun t9 ht9 hW9 => ⟨⟨(-1), (), rfl, by simp [exX, k_1_0, k_1_1, c_56, bf_c c_67], by rw [ht9]; exact hP, hD⟩, hS.F ht9⟩) hS.2.2 dX3_expectedBehind_75
      · refine lv_iconst (v := 3) hx hb dX3_expectedBehind_70 (by decide) ?_
        refine lv_goto (tgt := 75) hx hb dX3_expectedBehind_71 (by decide) ?_
        exact W.iret (v := 3) hx hb hr (fun t9 ht9 hW9 => ⟨⟨3, (), rfl, by simp [exX, k_1_0, k_1_1, c_56, bt_c c_67], by rw [ht9]; exact hP, hD⟩, hS.F ht9⟩) hS.2.2 dX3_expectedBehind_75
    · refine lv_iconst (v := 2) hx hb dX3_expectedBehind_59 (by decide) ?_
      refine lv_goto (tgt := 75) hx hb dX3_expectedBehind_60 (by decide) ?_
      exact W.iret (v := 2) hx hb hr (fun t9 ht9 hW9 => ⟨⟨2, (), rfl, by simp [exX, k_1_0, k_1_1, c_56], by rw [ht9]; exact hP, hD⟩, hS.F ht9⟩) hS.2.2 dX3_expectedBehind_75
  by_cases k_1_2 : xe = 2
  · refine top_i (y := 2) k_1_2 ?_
    refine lv_tableIn (tgt := 76) hx hb dX3_expectedBehind_1 (by decide) (by decide) rfl (by decide) ?_
    refine lv_iload_n hx hb dX3_expectedBehind_76 rfl (lv_at hl 1 rfl) ?_
    refine lv_bipush (v := 44) hx hb dX3_expectedBehind_77 (by decide) ?_
    refine lv_icmp_ne (tgt := 86) hx hb dX3_expectedBehind_79 (by decide) (fun c_79 => ?_) (fun c_79 => ?_)
    · refine lv_iload_n hx hb dX3_expectedBehind_86 rfl (lv_at hl 1 rfl) ?_
      refine cS_i CF hK hN hA hS (cut_of 0 [] hP hD rfl rfl rfl) (m_isDigit l D cI cZ cW cJ A (X) xa) (va_cwS 1 hts gX3_expectedBehind_X3_isDigit rfl rfl rfl (by decide +kernel) ⟨Nat.le_of_ble_eq_true rfl, Nat.le_of_ble_eq_true rfl⟩) (As := [.int xa]) (rest := []) rfl hl.1 rfl (Nat.le_of_ble_eq_true rfl) dX3_expectedBehind_87 ⟨Nat.le_of_ble_eq_true rfl, Nat.le_of_ble_eq_true rfl⟩ (fun r_87 _ H locs hq hP hD hS => ?_)
      have hq : r_87 = bI (digX xa) := hq
      subst hq
      have hP : va_P D vwCl (X) H := pm_P hP 0 [] rfl
      have hD : va_D A (X) := pm_D hD 0 [] rfl rfl rfl
      refine lv_if_eq (tgt := 97) hx hb dX3_expectedBehind_90 (by decide) (fun c_90 => ?_) (fun c_90 => ?_)
      · refine lv_iconst (v := (-1)) hx hb dX3_expectedBehind_97 (by decide) ?_
        exact W.iret (v := (-1)) hx hb hr (fun t9 ht9 hW9 => ⟨⟨(-1), (), rfl, by simp [exX, k_1_0, k_1_1, k_1_2, c_79, bf_c c_90], by rw [ht9]; exact hP, hD⟩, hS.F ht9⟩) hS.2.2 dX3_expectedBehind_98
      · refine lv_iconst (v := 3) hx hb dX3_expectedBehind_93 (by decide) ?_
        refine lv_goto (tgt := 98) hx hb dX3_expectedBehind_94 (by decide) ?_
        exact W.iret (v := 3) hx hb hr (fun t9 ht9 hW9 => ⟨⟨3, (), rfl, by simp [exX, k_1_0, k_1_1, k_1_2, c_79, bt_c c_90], by rw [ht9]; exact hP, hD⟩, hS.F ht9⟩) hS.2.2 dX3_expectedBehind_98
    · refine lv_iconst (v := 4) hx hb dX3_expectedBehind_82 (by decide) ?_
      refine lv_goto (tgt := 98) hx hb dX3_expectedBehind_83 (by decide) ?_
      exact W.iret (v := 4) hx hb hr (fun t9 ht9 hW9 => ⟨⟨4, (), rfl, by simp [exX, k_1_0, k_1_1, k_1_2, c_79], by rw [ht9]; exact hP, hD⟩, hS.F ht9⟩) hS.2.2 dX3_expectedBehind_98
  by_cases k_1_3 : xe = 3
  · refine top_i (y := 3) k_1_3 ?_
    refine lv_tableIn (tgt := 99) hx hb dX3_expectedBehind_1 (by decide) (by decide) rfl (by decide) ?_
    refine lv_iload_n hx hb dX3_expectedBehind_99 rfl (lv_at hl 1 rfl) ?_
    refine lv_bipush (v := 44) hx hb dX3_expectedBehind_100 (by decide) ?_
    refine lv_icmp_ne (tgt := 109) hx hb dX3_expectedBehind_102 (by decide) (fun c_102 => ?_) (fun c_102 => ?_)
    · refine lv_iconst (v := (-1)) hx hb dX3_expectedBehind_109 (by decide) ?_
      exact W.iret (v := (-1)) hx hb hr (fun t9 ht9 hW9 => ⟨⟨(-1), (), rfl, by simp [exX, k_1_0, k_1_1, k_1_2, k_1_3, c_102], by rw [ht9]; exact hP, hD⟩, hS.F ht9⟩) hS.2.2 dX3_expectedBehind_110
    · refine lv_iconst (v := 4) hx hb dX3_expectedBehind_105 (by decide) ?_
      refine lv_goto (tgt := 110) hx hb dX3_expectedBehind_106 (by decide) ?_
      exact W.iret (v := 4) hx hb hr (fun t9 ht9 hW9 => ⟨⟨4, (), rfl, by simp [exX, k_1_0, k_1_1, k_1_2, k_1_3, c_102], by rw [ht9]; exact hP, hD⟩, hS.F ht9⟩) hS.2.2 dX3_expectedBehind_110
  by_cases k_1_4 : xe = 4
  · refine top_i (y := 4) k_1_4 ?_
    refine lv_tableIn (tgt := 111) hx hb dX3_expectedBehind_1 (by decide) (by decide) rfl (by decide) ?_
    refine lv_iload_n hx hb dX3_expectedBehind_111 rfl (lv_at hl 1 rfl) ?_
    refine cS_i CF hK hN hA hS (cut_of 0 [] hP hD rfl rfl rfl) (m_isDigit l D cI cZ cW cJ A (X) xa) (va_cwS 1 hts gX3_expectedBehind_X3_isDigit rfl rfl rfl (by decide +kernel) ⟨Nat.le_of_ble_eq_true rfl, Nat.le_of_ble_eq_true rfl⟩) (As := [.int xa]) (rest := []) rfl hl.1 rfl (Nat.le_of_ble_eq_true rfl) dX3_expectedBehind_112 ⟨Nat.le_of_ble_eq_true rfl, Nat.le_of_ble_eq_true rfl⟩ (fun r_112 _ H locs hq hP hD hS => ?_)
    have hq : r_112 = bI (digX xa) := hq
    subst hq
    have hP : va_P D vwCl (X) H := pm_P hP 0 [] rfl
    have hD : va_D A (X) := pm_D hD 0 [] rfl rfl rfl
    refine lv_if_eq (tgt := 123) hx hb dX3_expectedBehind_115 (by decide) (fun c_115 => ?_) (fun c_115 => ?_)
    · refine lv_iconst (v := (-1)) hx hb dX3_expectedBehind_123 (by decide) ?_
      exact W.iret (v := (-1)) hx hb hr (fun t9 ht9 hW9 => ⟨⟨(-1), (), rfl, by simp [exX, k_1_0, k_1_1, k_1_2, k_1_3, k_1_4, bf_c c_115], by rw [ht9]; exact hP, hD⟩, hS.F ht9⟩) hS.2.2 dX3_expectedBehind_124
    · refine lv_bipush (v := 8) hx hb dX3_expectedBehind_118 (by decide) ?_
      refine lv_goto (tgt := 124) hx hb dX3_expectedBehind_120 (by decide) ?_
      exact W.iret (v := 8) hx hb hr (fun t9 ht9 hW9 => ⟨⟨8, (), rfl, by simp [exX, k_1_0, k_1_1, k_1_2, k_1_3, k_1_4, bt_c c_115], by rw [ht9]; exact hP, hD⟩, hS.F ht9⟩) hS.2.2 dX3_expectedBehind_124
  by_cases k_1_5 : xe = 5
  · refine top_i (y := 5) k_1_5 ?_
    refine lv_tableIn (tgt := 125) hx hb dX3_expectedBehind_1 (by decide) (by decide) rfl (by decide) ?_
    refine lv_iload_n hx hb dX3_expectedBehind_125 rfl (lv_at hl 1 rfl) ?_
    refine cS_i CF hK hN hA hS (cut_of 0 [] hP hD rfl rfl rfl) (m_isSign l D cI cZ cW cJ A (X) xa) (va_cwS 1 hts gX3_expectedBehind_X3_isSign rfl rfl rfl (by decide +kernel) ⟨Nat.le_of_ble_eq_true rfl, Nat.le_of_ble_eq_true rfl⟩) (As := [.int xa]) (rest := []) rfl hl.1 rfl (Nat.le_of_ble_eq_true rfl) dX3_expectedBehind_126 ⟨Nat.le_of_ble_eq_true rfl, Nat.le_of_ble_eq_true rfl⟩ (fun r_126 _ H locs hq hP hD hS => ?_)
    have hq : r_126 = bI (sgnX xa) := hq
    subst hq
    have hP : va_P D vwCl (X) H := pm_P hP 0 [] rfl
    have hD : va_D A (X) := pm_D hD 0 [] rfl rfl rfl
    refine lv_if_eq (tgt := 137) hx hb dX3_expectedBehind_129 (by decide) (fun c_129 => ?_) (fun c_129 => ?_)
    · refine lv_iconst (v := (-1)) hx hb dX3_expectedBehind_137 (by decide) ?_
      exact W.iret (v := (-1)) hx hb hr (fun t9 ht9 hW9 => ⟨⟨(-1), (), rfl, by simp [exX, k_1_0, k_1_1, k_1_2, k_1_3, k_1_4, k_1_5, bf_c c_129], by rw [ht9]; exact hP, hD⟩, hS.F ht9⟩) hS.2.2 dX3_expectedBehind_138
    · refine lv_bipush (v := 8) hx hb dX3_expectedBehind_132 (by decide) ?_
      refine lv_goto (tgt := 138) hx hb dX3_expectedBehind_134 (by decide) ?_
      exact W.iret (v := 8) hx hb hr (fun t9 ht9 hW9 => ⟨⟨8, (), rfl, by simp [exX, k_1_0, k_1_1, k_1_2, k_1_3, k_1_4, k_1_5, bt_c c_129], by rw [ht9]; exact hP, hD⟩, hS.F ht9⟩) hS.2.2 dX3_expectedBehind_138
  by_cases k_1_6 : xe = 6
  · refine top_i (y := 6) k_1_6 ?_
    refine lv_tableIn (tgt := 139) hx hb dX3_expectedBehind_1 (by decide) (by decide) rfl (by decide) ?_
    refine lv_iload_n hx hb dX3_expectedBehind_139 rfl (lv_at hl 1 rfl) ?_
    refine cS_i CF hK hN hA hS (cut_of 0 [] hP hD rfl rfl rfl) (m_isSign l D cI cZ cW cJ A (X) xa) (va_cwS 1 hts gX3_expectedBehind_X3_isSign rfl rfl rfl (by decide +kernel) ⟨Nat.le_of_ble_eq_true rfl, Nat.le_of_ble_eq_true rfl⟩) (As := [.int xa]) (rest := []) rfl hl.1 rfl (Nat.le_of_ble_eq_true rfl) dX3_expectedBehind_140 ⟨Nat.le_of_ble_eq_true rfl, Nat.le_of_ble_eq_true rfl⟩ (fun r_140 _ H locs hq hP hD hS => ?_)
    have hq : r_140 = bI (sgnX xa) := hq
    subst hq
    have hP : va_P D vwCl (X) H := pm_P hP 0 [] rfl
    have hD : va_D A (X) := pm_D hD 0 [] rfl rfl rfl
    refine lv_if_eq (tgt := 151) hx hb dX3_expectedBehind_143 (by decide) (fun c_143 => ?_) (fun c_143 => ?_)
    · refine lv_iconst (v := (-1)) hx hb dX3_expectedBehind_151 (by decide) ?_
      exact W.iret (v := (-1)) hx hb hr (fun t9 ht9 hW9 => ⟨⟨(-1), (), rfl, by simp [exX, k_1_0, k_1_1, k_1_2, k_1_3, k_1_4, k_1_5, k_1_6, bf_c c_143], by rw [ht9]; exact hP, hD⟩, hS.F ht9⟩) hS.2.2 dX3_expectedBehind_152
    · refine lv_bipush (v := 7) hx hb dX3_expectedBehind_146 (by decide) ?_
      refine lv_goto (tgt := 152) hx hb dX3_expectedBehind_148 (by decide) ?_
      exact W.iret (v := 7) hx hb hr (fun t9 ht9 hW9 => ⟨⟨7, (), rfl, by simp [exX, k_1_0, k_1_1, k_1_2, k_1_3, k_1_4, k_1_5, k_1_6, bt_c c_143], by rw [ht9]; exact hP, hD⟩, hS.F ht9⟩) hS.2.2 dX3_expectedBehind_152
  by_cases k_1_7 : xe = 7
  · refine top_i (y := 7) k_1_7 ?_
    refine lv_tableIn (tgt := 153) hx hb dX3_expectedBehind_1 (by decide) (by decide) rfl (by decide) ?_
    refine lv_iload_n hx hb dX3_expectedBehind_153 rfl (lv_at hl 1 rfl) ?_
    refine lv_bipush (v := 48) hx hb dX3_expectedBehind_154 (by decide) ?_
    refine lv_isub hx hb dX3_expectedBehind_156 ?_
    refine cSN_i CF hK hN hA hS (cut_of 0 [] hP hD rfl rfl rfl) (m_isRunUp l D cI cZ cW cJ A (X) (xa - 48)) ⟨va_cnB 1 hts gX3_expectedBehind_X8_isRunUp_n48 rfl rfl rfl (hN (RX3, 48, yX8_isRunUp) (List.mem_of_getElem? (i := 13) rfl)) (hts (.initialized RX8) (List.mem_of_getElem? (i := 12) rfl)) (by decide +kernel) ⟨Nat.le_of_ble_eq_true rfl, Nat.le_of_ble_eq_true rfl⟩, (hts (.static yX8_isRunUp) (List.mem_of_getElem? (i := 11) rfl)), trivial⟩ (As := [.int (xa - 48)]) (rest := []) rfl hl.1 rfl (Nat.le_of_ble_eq_true rfl) dX3_expectedBehind_157 ⟨Nat.le_of_ble_eq_true rfl, Nat.le_of_ble_eq_true rfl⟩ (fun r_157 _ H locs hq hP hD hS => ?_)
    have hq : r_157 = bI (isRunX (xa - 48)) := hq
    subst hq
    have hP : va_P D vwCl (X) H := pm_P hP 0 [] rfl
    have hD : va_D A (X) := pm_D hD 0 [] rfl rfl rfl
    refine lv_if_eq (tgt := 168) hx hb dX3_expectedBehind_160 (by decide) (fun c_160 => ?_) (fun c_160 => ?_)
    · refine lv_iconst (v := (-1)) hx hb dX3_expectedBehind_168 (by decide) ?_
      exact W.iret (v := (-1)) hx hb hr (fun t9 ht9 hW9 => ⟨⟨(-1), (), rfl, by simp [exX, k_1_0, k_1_1, k_1_2, k_1_3, k_1_4, k_1_5, k_1_6, k_1_7, bf_c c_160], by rw [ht9]; exact hP, hD⟩, hS.F ht9⟩) hS.2.2 dX3_expectedBehind_169
    · refine lv_bipush (v := 8) hx hb dX3_expectedBehind_163 (by decide) ?_
      refine lv_goto (tgt := 169) hx hb dX3_expectedBehind_165 (by decide) ?_
      exact W.iret (v := 8) hx hb hr (fun t9 ht9 hW9 => ⟨⟨8, (), rfl, by simp [exX, k_1_0, k_1_1, k_1_2, k_1_3, k_1_4, k_1_5, k_1_6, k_1_7, bt_c c_160], by rw [ht9]; exact hP, hD⟩, hS.F ht9⟩) hS.2.2 dX3_expectedBehind_169
  refine lv_tableOut (tgt := 170) hx hb dX3_expectedBehind_1 (sw_out 7 (fun k hk => by rcases (show k = 0 ∨ k = 1 ∨ k = 2 ∨ k = 3 ∨ k = 4 ∨ k = 5 ∨ k = 6 ∨ k = 7 by omega) with rfl | rfl | rfl | rfl | rfl | rfl | rfl | rfl <;> assumption)) (by decide) ?_
  refine lv_iload_n hx hb dX3_expectedBehind_170 rfl (lv_at hl 0 rfl) ?_
  refine lv_bipush (v := 8) hx hb dX3_expectedBehind_171 (by decide) ?_
  refine lv_icmp_ne (tgt := 186) hx hb dX3_expectedBehind_173 (by decide) (fun c_173 => ?_) (fun c_173 => ?_)
  · refine lv_iconst (v := (-1)) hx hb dX3_expectedBehind_186 (by decide) ?_
    exact W.iret (v := (-1)) hx hb hr (fun t9 ht9 hW9 => ⟨⟨(-1), (), rfl, by simp [exX, k_1_0, k_1_1, k_1_2, k_1_3, k_1_4, k_1_5, k_1_6, k_1_7, c_173], by rw [ht9]; exact hP, hD⟩, hS.F ht9⟩) hS.2.2 dX3_expectedBehind_187
  · refine lv_iload_n hx hb dX3_expectedBehind_176 rfl (lv_at hl 1 rfl) ?_
    refine lv_bipush (v := 59) hx hb dX3_expectedBehind_177 (by decide) ?_
    refine lv_icmp_ne (tgt := 186) hx hb dX3_expectedBehind_179 (by decide) (fun c_179 => ?_) (fun c_179 => ?_)
    · refine lv_iconst (v := (-1)) hx hb dX3_expectedBehind_186 (by decide) ?_
      exact W.iret (v := (-1)) hx hb hr (fun t9 ht9 hW9 => ⟨⟨(-1), (), rfl, by simp [exX, k_1_0, k_1_1, k_1_2, k_1_3, k_1_4, k_1_5, k_1_6, k_1_7, c_173, c_179], by rw [ht9]; exact hP, hD⟩, hS.F ht9⟩) hS.2.2 dX3_expectedBehind_187
    · refine lv_iconst (v := 0) hx hb dX3_expectedBehind_182 (by decide) ?_
      refine lv_goto (tgt := 187) hx hb dX3_expectedBehind_183 (by decide) ?_
      exact W.iret (v := 0) hx hb hr (fun t9 ht9 hW9 => ⟨⟨0, (), rfl, by simp [exX, k_1_0, k_1_1, k_1_2, k_1_3, k_1_4, k_1_5, k_1_6, k_1_7, c_173, c_179], by rw [ht9]; exact hP, hD⟩, hS.F ht9⟩) hS.2.2 dX3_expectedBehind_187
set_option maxHeartbeats 4000000 in
set_option maxRecDepth 100000 in
theorem m_add (l : Launch) (D : va_G) (cI cZ cW cJ : ClassId) (A : Nat → Prop) (X : va_W) (tx tco tn : Nat) (to tc tr ts tu te twp tp : Int32) (gco : Nat → Int32) (xa : Int32) (htn : tn < 60) : Met l yX3_add wsX3_add ({ frames := 2, cells := 0, slots := 0, locals := 41 }) (va_Pc [.ref tx, .int xa] (wd D (tyL cI cZ cW cJ) A (oX3 tx (nI tn) to tc tr ts tu tco te twp tp :: aI cI tco 60 gco :: X))) (va_Qv (fun (u : Int32 × Int32) => u.1 = (if te = -1 then -1 else exX te xa) ∧ u.2 = (if te = -1 then twp else nI tn)) (fun (u : Int32 × Int32) t => wq D A (oX3 tx (nI (tn + 1)) to tc tr ts tu tco u.1 u.2 tp :: aI cI tco 60 (upd gco tn xa) :: X) t) A) 0 0 A := by
  refine Met.ofW (cc := cX3_add) (maxL := 2) (ret := none) (by decide) rfl ?_
  intro p e s m args below meth c s₁ B hml hv
  obtain ⟨rfl, hsz9, hP, hK, hD, hN⟩ := hv
  have hx := B.exec
  have hb := B.bytes
  have hr := B.returns
  have hts := atoms_spec (ws := wsX3_add) B.pre
  have hown : s.vm.findClass RX3 = some m.cls := findClass_of_methodNamed B.named
  have hlocks := B.notSynchronized
  have CF : CallFix p m c cX3_add 2 s _ wsX3_add RX3 := ⟨hx, hb, hml, hown, hts⟩
  have hA : ∀ q : Nat, s.heap.size ≤ q → A q := hsz9
  have hS : va_S A s.heap s.heap [] := va_S.rf
  have hiX3 : ∀ w ∈ u_ws RX3 TX3 10, w ∈ wsX3_add := fun _ h => List.mem_cons_of_mem _ (List.mem_append_right _ (h))
  have hl := lv_entry ([.ref tx, .int xa]) (n := 2) (Nat.le_of_ble_eq_true rfl)
  rw [lg_entry_eq]
  generalize (lg_sl ([.ref tx, .int xa]) ++ List.replicate (2 - (lg_sl ([.ref tx, .int xa])).length) Slot.unset).toArray = ls at hl ⊢
  have hl : lv_has ls 2 [(0, .ref tx), (1, .int xa)] := hl
  show W p l e ({ frames := 2, cells := 0, slots := 0, locals := 41 } : Room) s m (([.ref tx, .int xa] : List Value).toArray) below meth c s.heap [] 0 0 (MQ below (va_Qv (fun (u : Int32 × Int32) => u.1 = (if te = -1 then -1 else exX te xa) ∧ u.2 = (if te = -1 then twp else nI tn)) (fun (u : Int32 × Int32) t => wq D A (oX3 tx (nI (tn + 1)) to tc tr ts tu tco u.1 u.2 tp :: aI cI tco 60 (upd gco tn xa) :: X) t) A) (([.ref tx, .int xa] : List Value).toArray) s 0 0 A) (F0 m 0 ls [])
  refine lv_aload_n hx hb dX3_add_0 rfl (lv_at hl 0 rfl) ?_
  refine va_get (D := D) (ci := 3) (v := .int te) (C := RX3) (T := TX3) (N := 10) hx hb hts hiX3 hown hK hP 0 rfl rfl 7 (by decide) (hts (.fieldLink RX3 15 "LedgeLeaps$OrderText" "expected" "I") (List.mem_of_getElem? (i := 1) rfl)) (fun _ h9 => h9) rfl dX3_add_1 ?_
  refine lv_iconst (v := (-1)) hx hb dX3_add_4 (by decide) ?_
  refine lv_icmp_eq (tgt := 28) hx hb dX3_add_5 (by decide) (fun c_5 => ?_) (fun c_5 => ?_)
  · refine lv_aload_n hx hb dX3_add_28 rfl (lv_at hl 0 rfl) ?_
    refine va_get (D := D) (ci := 3) (v := .ref tco) (C := RX3) (T := TX3) (N := 10) hx hb hts hiX3 hown hK hP 0 rfl rfl 6 (by decide) (hts (.fieldLink RX3 9 "LedgeLeaps$OrderText" "codes" "[I") (List.mem_of_getElem? (i := 4) rfl)) (fun _ h9 => h9) rfl dX3_add_29 ?_
    refine lv_aload_n hx hb dX3_add_32 rfl (lv_at hl 0 rfl) ?_
    refine va_get (D := D) (ci := 3) (v := .int (nI tn)) (C := RX3) (T := TX3) (N := 10) hx hb hts hiX3 hown hK hP 0 rfl rfl 0 (by decide) (hts (.fieldLink RX3 19 "LedgeLeaps$OrderText" "length" "I") (List.mem_of_getElem? (i := 2) rfl)) (fun _ h9 => h9) rfl dX3_add_33 ?_
    refine lv_iload_n hx hb dX3_add_36 rfl (lv_at hl 1 rfl) ?_
    refine cSN_v CF hK hN hA hS (cut_of 2 [1, 0] hP hD rfl rfl rfl) (m_store l D cI cZ cW cJ A (oX3 tx (nI tn) to tc tr ts tu tco te twp tp :: X) tco 60 gco (nI tn) xa (by decide)) ⟨va_cnB 3 hts gX3_add_X8_store_n29 rfl rfl rfl (hN (RX3, 29, yX8_store) (List.mem_of_getElem? (i := 11) rfl)) (hts (.initialized RX8) (List.mem_of_getElem? (i := 19) rfl)) (by decide +kernel) ⟨Nat.le_of_ble_eq_true rfl, Nat.le_of_ble_eq_true rfl⟩, (hts (.static yX8_store) (List.mem_of_getElem? (i := 21) rfl)), trivial⟩ (As := [.ref tco, .int (nI tn), .int xa]) (rest := []) rfl hl.1 rfl (Nat.le_of_ble_eq_true rfl) dX3_add_37 ⟨Nat.le_of_ble_eq_true rfl, Nat.le_of_ble_eq_true rfl⟩ (fun u_37 H locs hq hP hD hS => ?_)
    have hq_37 : u_37 = stX 60 gco (nI tn) xa := hq
    have hP : va_P D vwCl (oX3 tx (nI tn) to tc tr ts tu tco te twp tp :: aI cI tco 60 u_37 :: X) H := pm_P hP 2 [1, 0] rfl
    have hD : va_D A (oX3 tx (nI tn) to tc tr ts tu tco te twp tp :: aI cI tco 60 u_37 :: X) := pm_D hD 2 [1, 0] rfl rfl rfl
    rw [hq_37, st_nI htn (by decide)] at hP hD
    have hP : va_P D vwCl (oX3 tx (nI tn) to tc tr ts tu tco te twp tp :: aI cI tco 60 (upd gco tn xa) :: X) H := hP
    have hD : va_D A (oX3 tx (nI tn) to tc tr ts tu tco te twp tp :: aI cI tco 60 (upd gco tn xa) :: X) := hD
    refine lv_aload_n hx hb dX3_add_40 rfl (lv_at hl 0 rfl) ?_
    refine lv_dup hx hb dX3_add_41 rfl ?_
    refine va_get (D := D) (ci := 3) (v := .int (nI tn)) (C := RX3) (T := TX3) (N := 10) hx hb hts hiX3 hown hK hP 0 rfl rfl 0 (by decide) (hts (.fieldLink RX3 19 "LedgeLeaps$OrderText" "length" "I") (List.mem_of_getElem? (i := 2) rfl)) (fun _ h9 => h9) rfl dX3_add_42 ?_
    refine lv_iconst (v := 1) hx hb dX3_add_45 (by decide) ?_
    refine lv_iadd hx hb dX3_add_46 ?_
    refine top_i (y := (nI (tn + 1))) (nI_1 tn) ?_
    refine va_put (D := D) (ci := 3) (v := .int (nI (tn + 1))) (ty := .int) (C := RX3) (T := TX3) (N := 10) hx hb hts hiX3 tyX3 tyX3_ok nmX3 hown hK hP hD hS 0 rfl rfl 0 (by decide) (hts (.fieldLink RX3 19 "LedgeLeaps$OrderText" "length" "I") (List.mem_of_getElem? (i := 2) rfl)) (fun _ h9 => h9) rfl (by decide +kernel) rfl rfl (Nat.le_of_ble_eq_true rfl) dX3_add_47 (fun H locs hP hD hS => ?_)
    have hP : va_P D vwCl (oX3 tx (nI (tn + 1)) to tc tr ts tu tco te twp tp :: aI cI tco 60 (upd gco tn xa) :: X) H := hP
    have hD : va_D A (oX3 tx (nI (tn + 1)) to tc tr ts tu tco te twp tp :: aI cI tco 60 (upd gco tn xa) :: X) := hD
    exact W.vret hx hb hr (fun t9 ht9 hW9 => ⟨⟨(te, twp), rfl, ⟨by rw [if_pos c_5]; exact c_5, by rw [if_pos c_5]⟩, by rw [ht9]; exact hP, hD⟩, hS.F ht9⟩) hS.2.2 dX3_add_50
  · refine lv_aload_n hx hb dX3_add_8 rfl (lv_at hl 0 rfl) ?_
    refine lv_aload_n hx hb dX3_add_9 rfl (lv_at hl 0 rfl) ?_
    refine va_get (D := D) (ci := 3) (v := .int (nI tn)) (C := RX3) (T := TX3) (N := 10) hx hb hts hiX3 hown hK hP 0 rfl rfl 0 (by decide) (hts (.fieldLink RX3 19 "LedgeLeaps$OrderText" "length" "I") (List.mem_of_getElem? (i := 2) rfl)) (fun _ h9 => h9) rfl dX3_add_10 ?_
    refine va_put (D := D) (ci := 3) (v := .int (nI tn)) (ty := .int) (C := RX3) (T := TX3) (N := 10) hx hb hts hiX3 tyX3 tyX3_ok nmX3 hown hK hP hD hS 0 rfl rfl 8 (by decide) (hts (.fieldLink RX3 22 "LedgeLeaps$OrderText" "wrongPlace" "I") (List.mem_of_getElem? (i := 3) rfl)) (fun _ h9 => h9) rfl (by decide +kernel) rfl rfl (Nat.le_of_ble_eq_true rfl) dX3_add_13 (fun H locs hP hD hS => ?_)
    have hP : va_P D vwCl (oX3 tx (nI tn) to tc tr ts tu tco te (nI tn) tp :: aI cI tco 60 gco :: X) H := hP
    have hD : va_D A (oX3 tx (nI tn) to tc tr ts tu tco te (nI tn) tp :: aI cI tco 60 gco :: X) := hD
    refine lv_aload_n hx hb dX3_add_16 rfl (lv_at hl 0 rfl) ?_
    refine lv_aload_n hx hb dX3_add_17 rfl (lv_at hl 0 rfl) ?_
    refine va_get (D := D) (ci := 3) (v := .int te) (C := RX3) (T := TX3) (N := 10) hx hb hts hiX3 hown hK hP 0 rfl rfl 7 (by decide) (hts (.fieldLink RX3 15 "LedgeLeaps$OrderText" "expected" "I") (List.mem_of_getElem? (i := 1) rfl)) (fun _ h9 => h9) rfl dX3_add_18 ?_
    refine lv_iload_n hx hb dX3_add_21 rfl (lv_at hl 1 rfl) ?_
    refine cS_i CF hK hN hA hS (cut_of 2 [0, 1] hP hD rfl rfl rfl) (m_exX l D cI cZ cW cJ A (oX3 tx (nI tn) to tc tr ts tu tco te (nI tn) tp :: aI cI tco 60 gco :: X) te xa) (va_cwS 2 hts gX3_add_X3_expectedBehind rfl rfl rfl (by decide +kernel) ⟨Nat.le_of_ble_eq_true rfl, Nat.le_of_ble_eq_true rfl⟩) (As := [.int te, .int xa]) (rest := [.ref tx]) rfl hl.1 rfl (Nat.le_of_ble_eq_true rfl) dX3_add_22 ⟨Nat.le_of_ble_eq_true rfl, Nat.le_of_ble_eq_true rfl⟩ (fun r_22 _ H locs hq hP hD hS => ?_)
    have hq : r_22 = exX te xa := hq
    subst hq
    have hP : va_P D vwCl (oX3 tx (nI tn) to tc tr ts tu tco te (nI tn) tp :: aI cI tco 60 gco :: X) H := pm_P hP 2 [0, 1] rfl
    have hD : va_D A (oX3 tx (nI tn) to tc tr ts tu tco te (nI tn) tp :: aI cI tco 60 gco :: X) := pm_D hD 2 [0, 1] rfl rfl rfl
    refine va_put (D := D) (ci := 3) (v := .int (exX te xa)) (ty := .int) (C := RX3) (T := TX3) (N := 10) hx hb hts hiX3 tyX3 tyX3_ok nmX3 hown hK hP hD hS 0 rfl rfl 7 (by decide) (hts (.fieldLink RX3 15 "LedgeLeaps$OrderText" "expected" "I") (List.mem_of_getElem? (i := 1) rfl)) (fun _ h9 => h9) rfl (by decide +kernel) rfl rfl (Nat.le_of_ble_eq_true rfl) dX3_add_25 (fun H locs hP hD hS => ?_)
    have hP : va_P D vwCl (oX3 tx (nI tn) to tc tr ts tu tco (exX te xa) (nI tn) tp :: aI cI tco 60 gco :: X) H := hP
    have hD : va_D A (oX3 tx (nI tn) to tc tr ts tu tco (exX te xa) (nI tn) tp :: aI cI tco 60 gco :: X) := hD
    refine lv_aload_n hx hb dX3_add_28 rfl (lv_at hl 0 rfl) ?_
    refine va_get (D := D) (ci := 3) (v := .ref tco) (C := RX3) (T := TX3) (N := 10) hx hb hts hiX3 hown hK hP 0 rfl rfl 6 (by decide) (hts (.fieldLink RX3 9 "LedgeLeaps$OrderText" "codes" "[I") (List.mem_of_getElem? (i := 4) rfl)) (fun _ h9 => h9) rfl dX3_add_29 ?_
    refine lv_aload_n hx hb dX3_add_32 rfl (lv_at hl 0 rfl) ?_
    refine va_get (D := D) (ci := 3) (v := .int (nI tn)) (C := RX3) (T := TX3) (N := 10) hx hb hts hiX3 hown hK hP 0 rfl rfl 0 (by decide) (hts (.fieldLink RX3 19 "LedgeLeaps$OrderText" "length" "I") (List.mem_of_getElem? (i := 2) rfl)) (fun _ h9 => h9) rfl dX3_add_33 ?_
    refine lv_iload_n hx hb dX3_add_36 rfl (lv_at hl 1 rfl) ?_
    refine cSN_v CF hK hN hA hS (cut_of 2 [1, 0] hP hD rfl rfl rfl) (m_store l D cI cZ cW cJ A (oX3 tx (nI tn) to tc tr ts tu tco (exX te xa) (nI tn) tp :: X) tco 60 gco (nI tn) xa (by decide)) ⟨va_cnB 3 hts gX3_add_X8_store_n29 rfl rfl rfl (hN (RX3, 29, yX8_store) (List.mem_of_getElem? (i := 11) rfl)) (hts (.initialized RX8) (List.mem_of_getElem? (i := 19) rfl)) (by decide +kernel) ⟨Nat.le_of_ble_eq_true rfl, Nat.le_of_ble_eq_true rfl⟩, (hts (.static yX8_store) (List.mem_of_getElem? (i := 21) rfl)), trivial⟩ (As := [.ref tco, .int (nI tn), .int xa]) (rest := []) rfl hl.1 rfl (Nat.le_of_ble_eq_true rfl) dX3_add_37 ⟨Nat.le_of_ble_eq_true rfl, Nat.le_of_ble_eq_true rfl⟩ (fun u_37 H locs hq hP hD hS => ?_)
    have hq_37 : u_37 = stX 60 gco (nI tn) xa := hq
    have hP : va_P D vwCl (oX3 tx (nI tn) to tc tr ts tu tco (exX te xa) (nI tn) tp :: aI cI tco 60 u_37 :: X) H := pm_P hP 2 [1, 0] rfl
    have hD : va_D A (oX3 tx (nI tn) to tc tr ts tu tco (exX te xa) (nI tn) tp :: aI cI tco 60 u_37 :: X) := pm_D hD 2 [1, 0] rfl rfl rfl
    rw [hq_37, st_nI htn (by decide)] at hP hD
    have hP : va_P D vwCl (oX3 tx (nI tn) to tc tr ts tu tco (exX te xa) (nI tn) tp :: aI cI tco 60 (upd gco tn xa) :: X) H := hP
    have hD : va_D A (oX3 tx (nI tn) to tc tr ts tu tco (exX te xa) (nI tn) tp :: aI cI tco 60 (upd gco tn xa) :: X) := hD
    refine lv_aload_n hx hb dX3_add_40 rfl (lv_at hl 0 rfl) ?_
    refine lv_dup hx hb dX3_add_41 rfl ?_
    refine va_get (D := D) (ci := 3) (v := .int (nI tn)) (C := RX3) (T := TX3) (N := 10) hx hb hts hiX3 hown hK hP 0 rfl rfl 0 (by decide) (hts (.fieldLink RX3 19 "LedgeLeaps$OrderText" "length" "I") (List.mem_of_getElem? (i := 2) rfl)) (fun _ h9 => h9) rfl dX3_add_42 ?_
    refine lv_iconst (v := 1) hx hb dX3_add_45 (by decide) ?_
    refine lv_iadd hx hb dX3_add_46 ?_
    refine top_i (y := (nI (tn + 1))) (nI_1 tn) ?_
    refine va_put (D := D) (ci := 3) (v := .int (nI (tn + 1))) (ty := .int) (C := RX3) (T := TX3) (N := 10) hx hb hts hiX3 tyX3 tyX3_ok nmX3 hown hK hP hD hS 0 rfl rfl 0 (by decide) (hts (.fieldLink RX3 19 "LedgeLeaps$OrderText" "length" "I") (List.mem_of_getElem? (i := 2) rfl)) (fun _ h9 => h9) rfl (by decide +kernel) rfl rfl (Nat.le_of_ble_eq_true rfl) dX3_add_47 (fun H locs hP hD hS => ?_)
    have hP : va_P D vwCl (oX3 tx (nI (tn + 1)) to tc tr ts tu tco (exX te xa) (nI tn) tp :: aI cI tco 60 (upd gco tn xa) :: X) H := hP
    have hD : va_D A (oX3 tx (nI (tn + 1)) to tc tr ts tu tco (exX te xa) (nI tn) tp :: aI cI tco 60 (upd gco tn xa) :: X) := hD
    exact W.vret hx hb hr (fun t9 ht9 hW9 => ⟨⟨((exX te xa), (nI tn)), rfl, ⟨by rw [if_neg c_5], by rw [if_neg c_5]⟩, by rw [ht9]; exact hP, hD⟩, hS.F ht9⟩) hS.2.2 dX3_add_50
set_option maxHeartbeats 4000000 in
set_option maxRecDepth 100000 in
theorem m_empty (l : Launch) (D : va_G) (cI cZ cW cJ : ClassId) (A : Nat → Prop) (X : va_W) (tx tco : Nat) (tl to tc tr ts tu te twp tp : Int32) : Met l yX3_empty wsX3_empty ({ frames := 0, cells := 0, slots := 0, locals := 0 }) (va_Pc [.ref tx] (wd D (tyL cI cZ cW cJ) A (oX3 tx tl to tc tr ts tu tco te twp tp :: X))) (va_Qv (fun (u : Unit) => True) (fun (u : Unit) t => wq D A (oX3 tx 0 to tc tr ts tu tco 0 twp tp :: X) t) A) 0 0 A := by
  refine Met.ofW (cc := cX3_empty) (maxL := 1) (ret := none) (by decide) rfl ?_
  intro p e s m args below meth c s₁ B hml hv
  obtain ⟨rfl, hsz9, hP, hK, hD, hN⟩ := hv
  have hx := B.exec
  have hb := B.bytes
  have hr := B.returns
  have hts := atoms_spec (ws := wsX3_empty) B.pre
  have hown : s.vm.findClass RX3 = some m.cls := findClass_of_methodNamed B.named
  have hlocks := B.notSynchronized
  have CF : CallFix p m c cX3_empty 1 s _ wsX3_empty RX3 := ⟨hx, hb, hml, hown, hts⟩
  have hA : ∀ q : Nat, s.heap.size ≤ q → A q := hsz9
  have hS : va_S A s.heap s.heap [] := va_S.rf
  have hiX3 : ∀ w ∈ u_ws RX3 TX3 10, w ∈ wsX3_empty := fun _ h => List.mem_cons_of_mem _ (List.mem_append_right _ (h))
  have hl := lv_entry ([.ref tx]) (n := 1) (Nat.le_of_ble_eq_true rfl)
  rw [lg_entry_eq]
  generalize (lg_sl ([.ref tx]) ++ List.replicate (1 - (lg_sl ([.ref tx])).length) Slot.unset).toArray = ls at hl ⊢
  have hl : lv_has ls 1 [(0, .ref tx)] := hl
  show W p l e ({ frames := 0, cells := 0, slots := 0, locals := 0 } : Room) s m (([.ref tx] : List Value).toArray) below meth c s.heap [] 0 0 (MQ below (va_Qv (fun (u : Unit) => True) (fun (u : Unit) t => wq D A (oX3 tx 0 to tc tr ts tu tco 0 twp tp :: X) t) A) (([.ref tx] : List Value).toArray) s 0 0 A) (F0 m 0 ls [])
  refine lv_aload_n hx hb dX3_empty_0 rfl (lv_at hl 0 rfl) ?_
  refine lv_iconst (v := 0) hx hb dX3_empty_1 (by decide) ?_
  refine va_put (D := D) (ci := 3) (v := .int 0) (ty := .int) (C := RX3) (T := TX3) (N := 10) hx hb hts hiX3 tyX3 tyX3_ok nmX3 hown hK hP hD hS 0 rfl rfl 0 (by decide) (hts (.fieldLink RX3 19 "LedgeLeaps$OrderText" "length" "I") (List.mem_of_getElem? (i := 1) rfl)) (fun _ h9 => h9) rfl (by decide +kernel) rfl rfl (Nat.le_of_ble_eq_true rfl) dX3_empty_2 (fun H locs hP hD hS => ?_)
  have hP : va_P D vwCl (oX3 tx 0 to tc tr ts tu tco te twp tp :: X) H := hP
  have hD : va_D A (oX3 tx 0 to tc tr ts tu tco te twp tp :: X) := hD
  refine lv_aload_n hx hb dX3_empty_5 rfl (lv_at hl 0 rfl) ?_
  refine lv_iconst (v := 0) hx hb dX3_empty_6 (by decide) ?_
  refine va_put (D := D) (ci := 3) (v := .int 0) (ty := .int) (C := RX3) (T := TX3) (N := 10) hx hb hts hiX3 tyX3 tyX3_ok nmX3 hown hK hP hD hS 0 rfl rfl 7 (by decide) (hts (.fieldLink RX3 15 "LedgeLeaps$OrderText" "expected" "I") (List.mem_of_getElem? (i := 2) rfl)) (fun _ h9 => h9) rfl (by decide +kernel) rfl rfl (Nat.le_of_ble_eq_true rfl) dX3_empty_7 (fun H locs hP hD hS => ?_)
  have hP : va_P D vwCl (oX3 tx 0 to tc tr ts tu tco 0 twp tp :: X) H := hP
  have hD : va_D A (oX3 tx 0 to tc tr ts tu tco 0 twp tp :: X) := hD
  exact W.vret hx hb hr (fun t9 ht9 hW9 => ⟨⟨(), rfl, trivial, by rw [ht9]; exact hP, hD⟩, hS.F ht9⟩) hS.2.2 dX3_empty_10
set_option maxHeartbeats 4000000 in
set_option maxRecDepth 100000 in
theorem m_codeAt (l : Launch) (D : va_G) (cI cZ cW cJ : ClassId) (A : Nat → Prop) (X : va_W) (tx tco : Nat) (tl to tc tr ts tu te twp tp : Int32) (gco : Nat → Int32) (xa : Int32) : Met l yX3_codeAt wsX3_codeAt ({ frames := 1, cells := 0, slots := 0, locals := 21 }) (va_Pc [.ref tx, .int xa] (wd D (tyL cI cZ cW cJ) A (oX3 tx tl to tc tr ts tu tco te twp tp :: aI cI tco 60 gco :: X))) (va_Qi (fun (r : Int32) (u : Unit) => r = atX 60 gco xa) (fun (u : Unit) t => wq D A (oX3 tx tl to tc tr ts tu tco te twp tp :: aI cI tco 60 gco :: X) t) A) 0 0 A := by
  refine Met.ofW (cc := cX3_codeAt) (maxL := 2) (ret := (some .int)) (by decide) rfl ?_
  intro p e s m args below meth c s₁ B hml hv
  obtain ⟨rfl, hsz9, hP, hK, hD, hN⟩ := hv
  have hx := B.exec
  have hb := B.bytes
  have hr := B.returns
  have hts := atoms_spec (ws := wsX3_codeAt) B.pre
  have hown : s.vm.findClass RX3 = some m.cls := findClass_of_methodNamed B.named
  have hlocks := B.notSynchronized
  have CF : CallFix p m c cX3_codeAt 2 s _ wsX3_codeAt RX3 := ⟨hx, hb, hml, hown, hts⟩
  have hA : ∀ q : Nat, s.heap.size ≤ q → A q := hsz9
  have hS : va_S A s.heap s.heap [] := va_S.rf
  have hiX3 : ∀ w ∈ u_ws RX3 TX3 10, w ∈ wsX3_codeAt := fun _ h => List.mem_cons_of_mem _ (List.mem_append_right _ (h))
  have hl := lv_entry ([.ref tx, .int xa]) (n := 2) (Nat.le_of_ble_eq_true rfl)
  rw [lg_entry_eq]
  generalize (lg_sl ([.ref tx, .int xa]) ++ List.replicate (2 - (lg_sl ([.ref tx, .int xa])).length) Slot.unset).toArray = ls at hl ⊢
  have hl : lv_has ls 2 [(0, .ref tx), (1, .int xa)] := hl
  show W p l e ({ frames := 1, cells := 0, slots := 0, locals := 21 } : Room) s m (([.ref tx, .int xa] : List Value).toArray) below meth c s.heap [] 0 0 (MQ below (va_Qi (fun (r : Int32) (u : Unit) => r = atX 60 gco xa) (fun (u : Unit) t => wq D A (oX3 tx tl to tc tr ts tu tco te twp tp :: aI cI tco 60 gco :: X) t) A) (([.ref tx, .int xa] : List Value).toArray) s 0 0 A) (F0 m 0 ls [])
  refine lv_aload_n hx hb dX3_codeAt_0 rfl (lv_at hl 0 rfl) ?_
  refine va_get (D := D) (ci := 3) (v := .ref tco) (C := RX3) (T := TX3) (N := 10) hx hb hts hiX3 hown hK hP 0 rfl rfl 6 (by decide) (hts (.fieldLink RX3 9 "LedgeLeaps$OrderText" "codes" "[I") (List.mem_of_getElem? (i := 1) rfl)) (fun _ h9 => h9) rfl dX3_codeAt_1 ?_
  refine lv_iload_n hx hb dX3_codeAt_4 rfl (lv_at hl 1 rfl) ?_
  refine cSN_i CF hK hN hA hS (cut_of 2 [1, 0] hP hD rfl rfl rfl) (m_at l D cI cZ cW cJ A (oX3 tx tl to tc tr ts tu tco te twp tp :: X) tco 60 gco xa (by decide)) ⟨va_cnB 2 hts gX3_codeAt_X8_at_n33 rfl rfl rfl (hN (RX3, 33, yX8_at) (List.mem_of_getElem? (i := 12) rfl)) (hts (.initialized RX8) (List.mem_of_getElem? (i := 3) rfl)) (by decide +kernel) ⟨Nat.le_of_ble_eq_true rfl, Nat.le_of_ble_eq_true rfl⟩, (hts (.static yX8_at) (List.mem_of_getElem? (i := 2) rfl)), trivial⟩ (As := [.ref tco, .int xa]) (rest := []) rfl hl.1 rfl (Nat.le_of_ble_eq_true rfl) dX3_codeAt_5 ⟨Nat.le_of_ble_eq_true rfl, Nat.le_of_ble_eq_true rfl⟩ (fun r_5 _ H locs hq hP hD hS => ?_)
  have hq : r_5 = atX 60 gco xa := hq
  subst hq
  have hP : va_P D vwCl (oX3 tx tl to tc tr ts tu tco te twp tp :: aI cI tco 60 gco :: X) H := pm_P hP 2 [1, 0] rfl
  have hD : va_D A (oX3 tx tl to tc tr ts tu tco te twp tp :: aI cI tco 60 gco :: X) := pm_D hD 2 [1, 0] rfl rfl rfl
  exact W.iret (v := (atX 60 gco xa)) hx hb hr (fun t9 ht9 hW9 => ⟨⟨(atX 60 gco xa), (), rfl, rfl, by rw [ht9]; exact hP, hD⟩, hS.F ht9⟩) hS.2.2 dX3_codeAt_8
set_option maxHeartbeats 4000000 in
set_option maxRecDepth 100000 in
theorem m_errorPlace (l : Launch) (D : va_G) (cI cZ cW cJ : ClassId) (A : Nat → Prop) (X : va_W) (tx tco : Nat) (tl to tc tr ts tu te twp tp : Int32) : Met l yX3_errorPlace wsX3_errorPlace ({ frames := 0, cells := 0, slots := 0, locals := 0 }) (va_Pc [.ref tx] (wd D (tyL cI cZ cW cJ) A (oX3 tx tl to tc tr ts tu tco te twp tp :: X))) (va_Qi (fun (r : Int32) (u : Unit) => r = if te = -1 then twp else tl) (fun (u : Unit) t => wq D A (oX3 tx tl to tc tr ts tu tco te twp tp :: X) t) A) 0 0 A := by
  refine Met.ofW (cc := cX3_errorPlace) (maxL := 1) (ret := (some .int)) (by decide) rfl ?_
  intro p e s m args below meth c s₁ B hml hv
  obtain ⟨rfl, hsz9, hP, hK, hD, hN⟩ := hv
  have hx := B.exec
  have hb := B.bytes
  have hr := B.returns
  have hts := atoms_spec (ws := wsX3_errorPlace) B.pre
  have hown : s.vm.findClass RX3 = some m.cls := findClass_of_methodNamed B.named
  have hlocks := B.notSynchronized
  have CF : CallFix p m c cX3_errorPlace 1 s _ wsX3_errorPlace RX3 := ⟨hx, hb, hml, hown, hts⟩
  have hA : ∀ q : Nat, s.heap.size ≤ q → A q := hsz9
  have hS : va_S A s.heap s.heap [] := va_S.rf
  have hiX3 : ∀ w ∈ u_ws RX3 TX3 10, w ∈ wsX3_errorPlace := fun _ h => List.mem_cons_of_mem _ (List.mem_append_right _ (h))
  have hl := lv_entry ([.ref tx]) (n := 1) (Nat.le_of_ble_eq_true rfl)
  rw [lg_entry_eq]
  generalize (lg_sl ([.ref tx]) ++ List.replicate (1 - (lg_sl ([.ref tx])).length) Slot.unset).toArray = ls at hl ⊢
  have hl : lv_has ls 1 [(0, .ref tx)] := hl
  show W p l e ({ frames := 0, cells := 0, slots := 0, locals := 0 } : Room) s m (([.ref tx] : List Value).toArray) below meth c s.heap [] 0 0 (MQ below (va_Qi (fun (r : Int32) (u : Unit) => r = if te = -1 then twp else tl) (fun (u : Unit) t => wq D A (oX3 tx tl to tc tr ts tu tco te twp tp :: X) t) A) (([.ref tx] : List Value).toArray) s 0 0 A) (F0 m 0 ls [])
  refine lv_aload_n hx hb dX3_errorPlace_0 rfl (lv_at hl 0 rfl) ?_
  refine va_get (D := D) (ci := 3) (v := .int te) (C := RX3) (T := TX3) (N := 10) hx hb hts hiX3 hown hK hP 0 rfl rfl 7 (by decide) (hts (.fieldLink RX3 15 "LedgeLeaps$OrderText" "expected" "I") (List.mem_of_getElem? (i := 1) rfl)) (fun _ h9 => h9) rfl dX3_errorPlace_1 ?_
  refine lv_iconst (v := (-1)) hx hb dX3_errorPlace_4 (by decide) ?_
  refine lv_icmp_ne (tgt := 15) hx hb dX3_errorPlace_5 (by decide) (fun c_5 => ?_) (fun c_5 => ?_)
  · refine lv_aload_n hx hb dX3_errorPlace_15 rfl (lv_at hl 0 rfl) ?_
    refine va_get (D := D) (ci := 3) (v := .int tl) (C := RX3) (T := TX3) (N := 10) hx hb hts hiX3 hown hK hP 0 rfl rfl 0 (by decide) (hts (.fieldLink RX3 19 "LedgeLeaps$OrderText" "length" "I") (List.mem_of_getElem? (i := 3) rfl)) (fun _ h9 => h9) rfl dX3_errorPlace_16 ?_
    exact W.iret (v := tl) hx hb hr (fun t9 ht9 hW9 => ⟨⟨tl, (), rfl, by rw [if_neg c_5], by rw [ht9]; exact hP, hD⟩, hS.F ht9⟩) hS.2.2 dX3_errorPlace_19
  · refine lv_aload_n hx hb dX3_errorPlace_8 rfl (lv_at hl 0 rfl) ?_
    refine va_get (D := D) (ci := 3) (v := .int twp) (C := RX3) (T := TX3) (N := 10) hx hb hts hiX3 hown hK hP 0 rfl rfl 8 (by decide) (hts (.fieldLink RX3 22 "LedgeLeaps$OrderText" "wrongPlace" "I") (List.mem_of_getElem? (i := 2) rfl)) (fun _ h9 => h9) rfl dX3_errorPlace_9 ?_
    refine lv_goto (tgt := 19) hx hb dX3_errorPlace_12 (by decide) ?_
    exact W.iret (v := twp) hx hb hr (fun t9 ht9 hW9 => ⟨⟨twp, (), rfl, by rw [if_pos c_5], by rw [ht9]; exact hP, hD⟩, hS.F ht9⟩) hS.2.2 dX3_errorPlace_19
set_option maxHeartbeats 4000000 in
set_option maxRecDepth 100000 in
theorem m_tells (l : Launch) (D : va_G) (cI cZ cW cJ : ClassId) (A : Nat → Prop) (X : va_W) (tx tco : Nat) (tl to tc tr ts tu te twp tp : Int32) : Met l yX3_tellsOrders wsX3_tellsOrders ({ frames := 0, cells := 0, slots := 0, locals := 0 }) (va_Pc [.ref tx] (wd D (tyL cI cZ cW cJ) A (oX3 tx tl to tc tr ts tu tco te twp tp :: X))) (va_Qi (fun (r : Int32) (u : Unit) => r = bI (tellX te)) (fun (u : Unit) t => wq D A (oX3 tx tl to tc tr ts tu tco te twp tp :: X) t) A) 0 0 A := by
  refine Met.ofW (cc := cX3_tellsOrders) (maxL := 1) (ret := (some .boolean)) (by decide) rfl ?_
  intro p e s m args below meth c s₁ B hml hv
  obtain ⟨rfl, hsz9, hP, hK, hD, hN⟩ := hv
  have hx := B.exec
  have hb := B.bytes
  have hr := B.returns
  have hts := atoms_spec (ws := wsX3_tellsOrders) B.pre
  have hown : s.vm.findClass RX3 = some m.cls := findClass_of_methodNamed B.named
  have hlocks := B.notSynchronized
  have CF : CallFix p m c cX3_tellsOrders 1 s _ wsX3_tellsOrders RX3 := ⟨hx, hb, hml, hown, hts⟩
  have hA : ∀ q : Nat, s.heap.size ≤ q → A q := hsz9
  have hS : va_S A s.heap s.heap [] := va_S.rf
  have hiX3 : ∀ w ∈ u_ws RX3 TX3 10, w ∈ wsX3_tellsOrders := fun _ h => List.mem_cons_of_mem _ (List.mem_append_right _ (h))
  have hl := lv_entry ([.ref tx]) (n := 1) (Nat.le_of_ble_eq_true rfl)
  rw [lg_entry_eq]
  generalize (lg_sl ([.ref tx]) ++ List.replicate (1 - (lg_sl ([.ref tx])).length) Slot.unset).toArray = ls at hl ⊢
  have hl : lv_has ls 1 [(0, .ref tx)] := hl
  show W p l e ({ frames := 0, cells := 0, slots := 0, locals := 0 } : Room) s m (([.ref tx] : List Value).toArray) below meth c s.heap [] 0 0 (MQ below (va_Qi (fun (r : Int32) (u : Unit) => r = bI (tellX te)) (fun (u : Unit) t => wq D A (oX3 tx tl to tc tr ts tu tco te twp tp :: X) t) A) (([.ref tx] : List Value).toArray) s 0 0 A) (F0 m 0 ls [])
  refine lv_aload_n hx hb dX3_tellsOrders_0 rfl (lv_at hl 0 rfl) ?_
  refine va_get (D := D) (ci := 3) (v := .int te) (C := RX3) (T := TX3) (N := 10) hx hb hts hiX3 hown hK hP 0 rfl rfl 7 (by decide) (hts (.fieldLink RX3 15 "LedgeLeaps$OrderText" "expected" "I") (List.mem_of_getElem? (i := 1) rfl)) (fun _ h9 => h9) rfl dX3_tellsOrders_1 ?_
  refine lv_bipush (v := 8) hx hb dX3_tellsOrders_4 (by decide) ?_
  refine lv_icmp_ne (tgt := 13) hx hb dX3_tellsOrders_6 (by decide) (fun c_6 => ?_) (fun c_6 => ?_)
  · refine lv_iconst (v := 0) hx hb dX3_tellsOrders_13 (by decide) ?_
    exact W.zret (v := 0) (ty := .boolean) hx hb hr (rfl) (fun t9 ht9 hW9 => ⟨⟨0, (), rfl, by simp [bI, tellX, c_6], by rw [ht9]; exact hP, hD⟩, hS.F ht9⟩) hS.2.2 dX3_tellsOrders_14
  · refine lv_iconst (v := 1) hx hb dX3_tellsOrders_9 (by decide) ?_
    refine lv_goto (tgt := 14) hx hb dX3_tellsOrders_10 (by decide) ?_
    exact W.zret (v := 1) (ty := .boolean) hx hb hr (rfl) (fun t9 ht9 hW9 => ⟨⟨1, (), rfl, by simp [bI, tellX, c_6], by rw [ht9]; exact hP, hD⟩, hS.F ht9⟩) hS.2.2 dX3_tellsOrders_14
set_option maxHeartbeats 4000000 in
set_option maxRecDepth 100000 in
theorem m_rewind (l : Launch) (D : va_G) (cI cZ cW cJ : ClassId) (A : Nat → Prop) (X : va_W) (tx tco : Nat) (tl to tc tr ts tu te twp tp : Int32) : Met l yX3_rewind wsX3_rewind ({ frames := 0, cells := 0, slots := 0, locals := 0 }) (va_Pc [.ref tx] (wd D (tyL cI cZ cW cJ) A (oX3 tx tl to tc tr ts tu tco te twp tp :: X))) (va_Qv (fun (u : Unit) => True) (fun (u : Unit) t => wq D A (oX3 tx tl to tc tr ts tu tco te twp 0 :: X) t) A) 0 0 A := by
  refine Met.ofW (cc := cX3_rewind) (maxL := 1) (ret := none) (by decide) rfl ?_
  intro p e s m args below meth c s₁ B hml hv
  obtain ⟨rfl, hsz9, hP, hK, hD, hN⟩ := hv
  have hx := B.exec
  have hb := B.bytes
  have hr := B.returns
  have hts := atoms_spec (ws := wsX3_rewind) B.pre
  have hown : s.vm.findClass RX3 = some m.cls := findClass_of_methodNamed B.named
  have hlocks := B.notSynchronized
  have CF : CallFix p m c cX3_rewind 1 s _ wsX3_rewind RX3 := ⟨hx, hb, hml, hown, hts⟩
  have hA : ∀ q : Nat, s.heap.size ≤ q → A q := hsz9
  have hS : va_S A s.heap s.heap [] := va_S.rf
  have hiX3 : ∀ w ∈ u_ws RX3 TX3 10, w ∈ wsX3_rewind := fun _ h => List.mem_cons_of_mem _ (List.mem_append_right _ (h))
  have hl := lv_entry ([.ref tx]) (n := 1) (Nat.le_of_ble_eq_true rfl)
  rw [lg_entry_eq]
  generalize (lg_sl ([.ref tx]) ++ List.replicate (1 - (lg_sl ([.ref tx])).length) Slot.unset).toArray = ls at hl ⊢
  have hl : lv_has ls 1 [(0, .ref tx)] := hl
  show W p l e ({ frames := 0, cells := 0, slots := 0, locals := 0 } : Room) s m (([.ref tx] : List Value).toArray) below meth c s.heap [] 0 0 (MQ below (va_Qv (fun (u : Unit) => True) (fun (u : Unit) t => wq D A (oX3 tx tl to tc tr ts tu tco te twp 0 :: X) t) A) (([.ref tx] : List Value).toArray) s 0 0 A) (F0 m 0 ls [])
  refine lv_aload_n hx hb dX3_rewind_0 rfl (lv_at hl 0 rfl) ?_
  refine lv_iconst (v := 0) hx hb dX3_rewind_1 (by decide) ?_
  refine va_put (D := D) (ci := 3) (v := .int 0) (ty := .int) (C := RX3) (T := TX3) (N := 10) hx hb hts hiX3 tyX3 tyX3_ok nmX3 hown hK hP hD hS 0 rfl rfl 9 (by decide) (hts (.fieldLink RX3 51 "LedgeLeaps$OrderText" "place" "I") (List.mem_of_getElem? (i := 1) rfl)) (fun _ h9 => h9) rfl (by decide +kernel) rfl rfl (Nat.le_of_ble_eq_true rfl) dX3_rewind_2 (fun H locs hP hD hS => ?_)
  have hP : va_P D vwCl (oX3 tx tl to tc tr ts tu tco te twp 0 :: X) H := hP
  have hD : va_D A (oX3 tx tl to tc tr ts tu tco te twp 0 :: X) := hD
  exact W.vret hx hb hr (fun t9 ht9 hW9 => ⟨⟨(), rfl, trivial, by rw [ht9]; exact hP, hD⟩, hS.F ht9⟩) hS.2.2 dX3_rewind_5
def moreX (p l : Int32) : Bool := if p < l then true else false
set_option maxHeartbeats 4000000 in
set_option maxRecDepth 100000 in
theorem m_hasMore (l : Launch) (D : va_G) (cI cZ cW cJ : ClassId) (A : Nat → Prop) (X : va_W) (tx tco : Nat) (tl to tc tr ts tu te twp tp : Int32) : Met l yX3_hasMore wsX3_hasMore ({ frames := 0, cells := 0, slots := 0, locals := 0 }) (va_Pc [.ref tx] (wd D (tyL cI cZ cW cJ) A (oX3 tx tl to tc tr ts tu tco te twp tp :: X))) (va_Qi (fun (r : Int32) (u : Unit) => r = bI (moreX tp tl)) (fun (u : Unit) t => wq D A (oX3 tx tl to tc tr ts tu tco te twp tp :: X) t) A) 0 0 A := by
  refine Met.ofW (cc := cX3_hasMore) (maxL := 1) (ret := (some .boolean)) (by decide) rfl ?_
  intro p e s m args below meth c s₁ B hml hv
  obtain ⟨rfl, hsz9, hP, hK, hD, hN⟩ := hv
  have hx := B.exec
  have hb := B.bytes
  have hr := B.returns
  have hts := atoms_spec (ws := wsX3_hasMore) B.pre
  have hown : s.vm.findClass RX3 = some m.cls := findClass_of_methodNamed B.named
  have hlocks := B.notSynchronized
  have CF : CallFix p m c cX3_hasMore 1 s _ wsX3_hasMore RX3 := ⟨hx, hb, hml, hown, hts⟩
  have hA : ∀ q : Nat, s.heap.size ≤ q → A q := hsz9
  have hS : va_S A s.heap s.heap [] := va_S.rf
  have hiX3 : ∀ w ∈ u_ws RX3 TX3 10, w ∈ wsX3_hasMore := fun _ h => List.mem_cons_of_mem _ (List.mem_append_right _ (h))
  have hl := lv_entry ([.ref tx]) (n := 1) (Nat.le_of_ble_eq_true rfl)
  rw [lg_entry_eq]
  generalize (lg_sl ([.ref tx]) ++ List.replicate (1 - (lg_sl ([.ref tx])).length) Slot.unset).toArray = ls at hl ⊢
  have hl : lv_has ls 1 [(0, .ref tx)] := hl
  show W p l e ({ frames := 0, cells := 0, slots := 0, locals := 0 } : Room) s m (([.ref tx] : List Value).toArray) below meth c s.heap [] 0 0 (MQ below (va_Qi (fun (r : Int32) (u : Unit) => r = bI (moreX tp tl)) (fun (u : Unit) t => wq D A (oX3 tx tl to tc tr ts tu tco te twp tp :: X) t) A) (([.ref tx] : List Value).toArray) s 0 0 A) (F0 m 0 ls [])
  refine lv_aload_n hx hb dX3_hasMore_0 rfl (lv_at hl 0 rfl) ?_
  refine va_get (D := D) (ci := 3) (v := .int tp) (C := RX3) (T := TX3) (N := 10) hx hb hts hiX3 hown hK hP 0 rfl rfl 9 (by decide) (hts (.fieldLink RX3 51 "LedgeLeaps$OrderText" "place" "I") (List.mem_of_getElem? (i := 1) rfl)) (fun _ h9 => h9) rfl dX3_hasMore_1 ?_
  refine lv_aload_n hx hb dX3_hasMore_4 rfl (lv_at hl 0 rfl) ?_
  refine va_get (D := D) (ci := 3) (v := .int tl) (C := RX3) (T := TX3) (N := 10) hx hb hts hiX3 hown hK hP 0 rfl rfl 0 (by decide) (hts (.fieldLink RX3 19 "LedgeLeaps$OrderText" "length" "I") (List.mem_of_getElem? (i := 2) rfl)) (fun _ h9 => h9) rfl dX3_hasMore_5 ?_
  refine lv_icmp_ge (tgt := 15) hx hb dX3_hasMore_8 (by decide) (fun c_8 => ?_) (fun c_8 => ?_)
  · refine lv_iconst (v := 0) hx hb dX3_hasMore_15 (by decide) ?_
    exact W.zret (v := 0) (ty := .boolean) hx hb hr (rfl) (fun t9 ht9 hW9 => ⟨⟨0, (), rfl, by simp [bI, moreX, Int32.not_lt.mpr c_8], by rw [ht9]; exact hP, hD⟩, hS.F ht9⟩) hS.2.2 dX3_hasMore_16
  · refine lv_iconst (v := 1) hx hb dX3_hasMore_11 (by decide) ?_
    refine lv_goto (tgt := 16) hx hb dX3_hasMore_12 (by decide) ?_
    exact W.zret (v := 1) (ty := .boolean) hx hb hr (rfl) (fun t9 ht9 hW9 => ⟨⟨1, (), rfl, by simp [bI, moreX, Int32.not_le.mp c_8], by rw [ht9]; exact hP, hD⟩, hS.F ht9⟩) hS.2.2 dX3_hasMore_16
set_option maxHeartbeats 4000000 in
set_option maxRecDepth 100000 in
theorem m_nextCode (l : Launch) (D : va_G) (cI cZ cW cJ : ClassId) (A : Nat → Prop) (X : va_W) (tx tco : Nat) (tl to tc tr ts tu te twp : Int32) (gco : Nat → Int32) (pn : Nat) : Met l yX3_nextCode wsX3_nextCode ({ frames := 1, cells := 0, slots := 0, locals := 21 }) (va_Pc [.ref tx] (wd D (tyL cI cZ cW cJ) A (oX3 tx tl to tc tr ts tu tco te twp (nI pn) :: aI cI tco 60 gco :: X))) (va_Qi (fun (r : Int32) (u : Unit) => r = atX 60 gco (nI pn)) (fun (u : Unit) t => wq D A (oX3 tx tl to tc tr ts tu tco te twp (nI (pn + 1)) :: aI cI tco 60 gco :: X) t) A) 0 0 A := by
  refine Met.ofW (cc := cX3_nextCode) (maxL := 1) (ret := (some .int)) (by decide) rfl ?_
  intro p e s m args below meth c s₁ B hml hv
  obtain ⟨rfl, hsz9, hP, hK, hD, hN⟩ := hv
  have hx := B.exec
  have hb := B.bytes
  have hr := B.returns
  have hts := atoms_spec (ws := wsX3_nextCode) B.pre
  have hown : s.vm.findClass RX3 = some m.cls := findClass_of_methodNamed B.named
  have hlocks := B.notSynchronized
  have CF : CallFix p m c cX3_nextCode 1 s _ wsX3_nextCode RX3 := ⟨hx, hb, hml, hown, hts⟩
  have hA : ∀ q : Nat, s.heap.size ≤ q → A q := hsz9
  have hS : va_S A s.heap s.heap [] := va_S.rf
  have hiX3 : ∀ w ∈ u_ws RX3 TX3 10, w ∈ wsX3_nextCode := fun _ h => List.mem_cons_of_mem _ (List.mem_append_right _ (h))
  have hl := lv_entry ([.ref tx]) (n := 1) (Nat.le_of_ble_eq_true rfl)
  rw [lg_entry_eq]
  generalize (lg_sl ([.ref tx]) ++ List.replicate (1 - (lg_sl ([.ref tx])).length) Slot.unset).toArray = ls at hl ⊢
  have hl : lv_has ls 1 [(0, .ref tx)] := hl
  show W p l e ({ frames := 1, cells := 0, slots := 0, locals := 21 } : Room) s m (([.ref tx] : List Value).toArray) below meth c s.heap [] 0 0 (MQ below (va_Qi (fun (r : Int32) (u : Unit) => r = atX 60 gco (nI pn)) (fun (u : Unit) t => wq D A (oX3 tx tl to tc tr ts tu tco te twp (nI (pn + 1)) :: aI cI tco 60 gco :: X) t) A) (([.ref tx] : List Value).toArray) s 0 0 A) (F0 m 0 ls [])
  refine lv_aload_n hx hb dX3_nextCode_0 rfl (lv_at hl 0 rfl) ?_
  refine lv_dup hx hb dX3_nextCode_1 rfl ?_
  refine va_get (D := D) (ci := 3) (v := .int (nI pn)) (C := RX3) (T := TX3) (N := 10) hx hb hts hiX3 hown hK hP 0 rfl rfl 9 (by decide) (hts (.fieldLink RX3 51 "LedgeLeaps$OrderText" "place" "I") (List.mem_of_getElem? (i := 1) rfl)) (fun _ h9 => h9) rfl dX3_nextCode_2 ?_
  refine lv_iconst (v := 1) hx hb dX3_nextCode_5 (by decide) ?_
  refine lv_iadd hx hb dX3_nextCode_6 ?_
  refine top_i (y := (nI (pn + 1))) (nI_1 pn) ?_
  refine va_put (D := D) (ci := 3) (v := .int (nI (pn + 1))) (ty := .int) (C := RX3) (T := TX3) (N := 10) hx hb hts hiX3 tyX3 tyX3_ok nmX3 hown hK hP hD hS 0 rfl rfl 9 (by decide) (hts (.fieldLink RX3 51 "LedgeLeaps$OrderText" "place" "I") (List.mem_of_getElem? (i := 1) rfl)) (fun _ h9 => h9) rfl (by decide +kernel) rfl rfl (Nat.le_of_ble_eq_true rfl) dX3_nextCode_7 (fun H locs hP hD hS => ?_)
  have hP : va_P D vwCl (oX3 tx tl to tc tr ts tu tco te twp (nI (pn + 1)) :: aI cI tco 60 gco :: X) H := hP
  have hD : va_D A (oX3 tx tl to tc tr ts tu tco te twp (nI (pn + 1)) :: aI cI tco 60 gco :: X) := hD
  refine lv_aload_n hx hb dX3_nextCode_10 rfl (lv_at hl 0 rfl) ?_
  refine va_get (D := D) (ci := 3) (v := .ref tco) (C := RX3) (T := TX3) (N := 10) hx hb hts hiX3 hown hK hP 0 rfl rfl 6 (by decide) (hts (.fieldLink RX3 9 "LedgeLeaps$OrderText" "codes" "[I") (List.mem_of_getElem? (i := 2) rfl)) (fun _ h9 => h9) rfl dX3_nextCode_11 ?_
  refine lv_aload_n hx hb dX3_nextCode_14 rfl (lv_at hl 0 rfl) ?_
  refine va_get (D := D) (ci := 3) (v := .int (nI (pn + 1))) (C := RX3) (T := TX3) (N := 10) hx hb hts hiX3 hown hK hP 0 rfl rfl 9 (by decide) (hts (.fieldLink RX3 51 "LedgeLeaps$OrderText" "place" "I") (List.mem_of_getElem? (i := 1) rfl)) (fun _ h9 => h9) rfl dX3_nextCode_15 ?_
  refine lv_iconst (v := 1) hx hb dX3_nextCode_18 (by decide) ?_
  refine lv_isub hx hb dX3_nextCode_19 ?_
  refine top_i (y := (nI pn)) (nI_pred pn) ?_
  refine cSN_i CF hK hN hA hS (cut_of 2 [1, 0] hP hD rfl rfl rfl) (m_at l D cI cZ cW cJ A (oX3 tx tl to tc tr ts tu tco te twp (nI (pn + 1)) :: X) tco 60 gco (nI pn) (by decide)) ⟨va_cnB 2 hts gX3_nextCode_X8_at_n33 rfl rfl rfl (hN (RX3, 33, yX8_at) (List.mem_of_getElem? (i := 12) rfl)) (hts (.initialized RX8) (List.mem_of_getElem? (i := 4) rfl)) (by decide +kernel) ⟨Nat.le_of_ble_eq_true rfl, Nat.le_of_ble_eq_true rfl⟩, (hts (.static yX8_at) (List.mem_of_getElem? (i := 3) rfl)), trivial⟩ (As := [.ref tco, .int (nI pn)]) (rest := []) rfl hl.1 rfl (Nat.le_of_ble_eq_true rfl) dX3_nextCode_20 ⟨Nat.le_of_ble_eq_true rfl, Nat.le_of_ble_eq_true rfl⟩ (fun r_20 _ H locs hq hP hD hS => ?_)
  have hq : r_20 = atX 60 gco (nI pn) := hq
  subst hq
  have hP : va_P D vwCl (oX3 tx tl to tc tr ts tu tco te twp (nI (pn + 1)) :: aI cI tco 60 gco :: X) H := pm_P hP 2 [1, 0] rfl
  have hD : va_D A (oX3 tx tl to tc tr ts tu tco te twp (nI (pn + 1)) :: aI cI tco 60 gco :: X) := pm_D hD 2 [1, 0] rfl rfl rfl
  exact W.iret (v := (atX 60 gco (nI pn))) hx hb hr (fun t9 ht9 hW9 => ⟨⟨(atX 60 gco (nI pn)), (), rfl, rfl, by rw [ht9]; exact hP, hD⟩, hS.F ht9⟩) hS.2.2 dX3_nextCode_23
set_option maxHeartbeats 4000000 in
set_option maxRecDepth 100000 in
theorem m_nextNumber (l : Launch) (D : va_G) (cI cZ cW cJ : ClassId) (A : Nat → Prop) (X : va_W) (tx tco tn : Nat) (to tc tr ts tu te twp : Int32) (gco : Nat → Int32) (pn : Nat) (htn : tn ≤ 60) (hpn : pn ≤ 100) : Met l yX3_nextNumber wsX3_nextNumber ({ frames := 2, cells := 0, slots := 0, locals := 41 }) (va_Pc [.ref tx] (wd D (tyL cI cZ cW cJ) A (oX3 tx (nI tn) to tc tr ts tu tco te twp (nI pn) :: aI cI tco 60 gco :: X))) (va_Qi (fun (r : Int32) (u : Nat) => r = (numF gco tn 2 pn 0).1 ∧ u = (numF gco tn 2 pn 0).2) (fun (u : Nat) t => wq D A (oX3 tx (nI tn) to tc tr ts tu tco te twp (nI u) :: aI cI tco 60 gco :: X) t) A) 0 0 A := by
  refine Met.ofW (cc := cX3_nextNumber) (maxL := 3) (ret := (some .int)) (by decide) rfl ?_
  intro p e s m args below meth c s₁ B hml hv
  obtain ⟨rfl, hsz9, hP, hK, hD, hN⟩ := hv
  have hx := B.exec
  have hb := B.bytes
  have hr := B.returns
  have hts := atoms_spec (ws := wsX3_nextNumber) B.pre
  have hown : s.vm.findClass RX3 = some m.cls := findClass_of_methodNamed B.named
  have hlocks := B.notSynchronized
  have CF : CallFix p m c cX3_nextNumber 3 s _ wsX3_nextNumber RX3 := ⟨hx, hb, hml, hown, hts⟩
  have hA : ∀ q : Nat, s.heap.size ≤ q → A q := hsz9
  have hS : va_S A s.heap s.heap [] := va_S.rf
  have hiX3 : ∀ w ∈ u_ws RX3 TX3 10, w ∈ wsX3_nextNumber := fun _ h => List.mem_cons_of_mem _ (List.mem_append_right _ (h))
  have hl := lv_entry ([.ref tx]) (n := 3) (Nat.le_of_ble_eq_true rfl)
  rw [lg_entry_eq]
  generalize (lg_sl ([.ref tx]) ++ List.replicate (3 - (lg_sl ([.ref tx])).length) Slot.unset).toArray = ls at hl ⊢
  have hl : lv_has ls 3 [(0, .ref tx)] := hl
  show W p l e ({ frames := 2, cells := 0, slots := 0, locals := 41 } : Room) s m (([.ref tx] : List Value).toArray) below meth c s.heap [] 0 0 (MQ below (va_Qi (fun (r : Int32) (u : Nat) => r = (numF gco tn 2 pn 0).1 ∧ u = (numF gco tn 2 pn 0).2) (fun (u : Nat) t => wq D A (oX3 tx (nI tn) to tc tr ts tu tco te twp (nI u) :: aI cI tco 60 gco :: X) t) A) (([.ref tx] : List Value).toArray) s 0 0 A) (F0 m 0 ls [])
  refine lv_iconst (v := 0) hx hb dX3_nextNumber_0 (by decide) ?_
  refine lv_istore_n (lv' := [(1, .int 0), (0, .ref tx)]) hx hb dX3_nextNumber_1 rfl hl (by decide) rfl (fun ls hl => ?_)
  refine lv_iconst (v := 0) hx hb dX3_nextNumber_2 (by decide) ?_
  refine lv_istore_n (lv' := [(2, .int 0), (1, .int 0), (0, .ref tx)]) hx hb dX3_nextNumber_3 rfl hl (by decide) rfl (fun ls hl => ?_)
  have loop_4 : ∀ (nfu : Nat) (k ic : Nat) (a9 : Int32) (hn_4 : 2 - ic < nfu) (hk : k ≤ 100 + ic) (hic : ic ≤ 2) (hv : numF gco tn (2 - ic) k a9 = numF gco tn 2 pn 0) (H : Heap) (locs : List Loc) (hP : va_P D vwCl (oX3 tx (nI tn) to tc tr ts tu tco te twp (nI k) :: aI cI tco 60 gco :: X) H) (hD : va_D A (oX3 tx (nI tn) to tc tr ts tu tco te twp (nI k) :: aI cI tco 60 gco :: X)) (hS : va_S A s.heap H locs) (ls : Array Slot) (hl : lv_has ls 3 [(2, .int (nI ic)), (1, .int a9), (0, .ref tx)]), W p l e ({ frames := 2, cells := 0, slots := 0, locals := 41 } : Room) s m (([.ref tx] : List Value).toArray) below meth c H locs 0 0 (MQ below (va_Qi (fun (r : Int32) (u : Nat) => r = (numF gco tn 2 pn 0).1 ∧ u = (numF gco tn 2 pn 0).2) (fun (u : Nat) t => wq D A (oX3 tx (nI tn) to tc tr ts tu tco te twp (nI u) :: aI cI tco 60 gco :: X) t) A) (([.ref tx] : List Value).toArray) s 0 0 A) (F0 m 4 ls []) := by
    intro nfu
    induction nfu with
    | zero => intro k ic a9 hn_4; exact absurd hn_4 (Nat.not_lt_zero _)
    | succ nfu ih_4 =>
      intro k ic a9 hn_4 hk hic hv H locs hP hD hS ls hl
      refine lv_iload_n hx hb dX3_nextNumber_4 rfl (lv_at hl 0 rfl) ?_
      refine lv_iconst (v := 2) hx hb dX3_nextNumber_5 (by decide) ?_
      refine lv_icmp_ge (tgt := 56) hx hb dX3_nextNumber_6 (by decide) (fun c_6 => ?_) (fun c_6 => ?_)
      · refine lv_iload_n hx hb dX3_nextNumber_56 rfl (lv_at hl 1 rfl) ?_
        exact W.iret (v := a9) hx hb hr (fun t9 ht9 hW9 => ⟨⟨a9, k, rfl, by rw [← hv, show ic = 2 by have h := le_of_ge (a := 2) (b := ic) (by decide) (by omega) c_6; omega, Nat.sub_self, numF]; exact ⟨rfl, rfl⟩, by rw [ht9]; exact hP, hD⟩, hS.F ht9⟩) hS.2.2 dX3_nextNumber_57
      · have hi9 : ic < 2 := lt_of_nge (a := 2) (b := ic) (by decide) (by omega) c_6
        refine lv_aload_n hx hb dX3_nextNumber_9 rfl (lv_at hl 2 rfl) ?_
        refine va_get (D := D) (ci := 3) (v := .int (nI k)) (C := RX3) (T := TX3) (N := 10) hx hb hts hiX3 hown hK hP 0 rfl rfl 9 (by decide) (hts (.fieldLink RX3 51 "LedgeLeaps$OrderText" "place" "I") (List.mem_of_getElem? (i := 1) rfl)) (fun _ h9 => h9) rfl dX3_nextNumber_10 ?_
        refine lv_aload_n hx hb dX3_nextNumber_13 rfl (lv_at hl 2 rfl) ?_
        refine va_get (D := D) (ci := 3) (v := .int (nI tn)) (C := RX3) (T := TX3) (N := 10) hx hb hts hiX3 hown hK hP 0 rfl rfl 0 (by decide) (hts (.fieldLink RX3 19 "LedgeLeaps$OrderText" "length" "I") (List.mem_of_getElem? (i := 2) rfl)) (fun _ h9 => h9) rfl dX3_nextNumber_14 ?_
        refine lv_icmp_ge (tgt := 56) hx hb dX3_nextNumber_17 (by decide) (fun c_17 => ?_) (fun c_17 => ?_)
        · refine lv_iload_n hx hb dX3_nextNumber_56 rfl (lv_at hl 1 rfl) ?_
          exact W.iret (v := a9) hx hb hr (fun t9 ht9 hW9 => ⟨⟨a9, k, rfl, by rw [← hv, show 2 - ic = (1 - ic) + 1 by omega, numF, if_neg (by have h := le_of_ge (a := tn) (b := k) (by omega) (by omega) c_17; omega)]; exact ⟨rfl, rfl⟩, by rw [ht9]; exact hP, hD⟩, hS.F ht9⟩) hS.2.2 dX3_nextNumber_57
        · have hk9 : k < tn := lt_of_nge (a := tn) (b := k) (by omega) (by omega) c_17
          refine lv_aload_n hx hb dX3_nextNumber_20 rfl (lv_at hl 2 rfl) ?_
          refine va_get (D := D) (ci := 3) (v := .ref tco) (C := RX3) (T := TX3) (N := 10) hx hb hts hiX3 hown hK hP 0 rfl rfl 6 (by decide) (hts (.fieldLink RX3 9 "LedgeLeaps$OrderText" "codes" "[I") (List.mem_of_getElem? (i := 3) rfl)) (fun _ h9 => h9) rfl dX3_nextNumber_21 ?_
          refine lv_aload_n hx hb dX3_nextNumber_24 rfl (lv_at hl 2 rfl) ?_
          refine va_get (D := D) (ci := 3) (v := .int (nI k)) (C := RX3) (T := TX3) (N := 10) hx hb hts hiX3 hown hK hP 0 rfl rfl 9 (by decide) (hts (.fieldLink RX3 51 "LedgeLeaps$OrderText" "place" "I") (List.mem_of_getElem? (i := 1) rfl)) (fun _ h9 => h9) rfl dX3_nextNumber_25 ?_
          refine cSN_i CF hK hN hA hS (cut_of 2 [1, 0] hP hD rfl rfl rfl) (m_at l D cI cZ cW cJ A (oX3 tx (nI tn) to tc tr ts tu tco te twp (nI k) :: X) tco 60 gco (nI k) (by decide)) ⟨va_cnB 2 hts gX3_nextNumber_X8_at_n33 rfl rfl rfl (hN (RX3, 33, yX8_at) (List.mem_of_getElem? (i := 12) rfl)) (hts (.initialized RX8) (List.mem_of_getElem? (i := 5) rfl)) (by decide +kernel) ⟨Nat.le_of_ble_eq_true rfl, Nat.le_of_ble_eq_true rfl⟩, (hts (.static yX8_at) (List.mem_of_getElem? (i := 4) rfl)), trivial⟩ (As := [.ref tco, .int (nI k)]) (rest := []) rfl hl.1 rfl (Nat.le_of_ble_eq_true rfl) dX3_nextNumber_28 ⟨Nat.le_of_ble_eq_true rfl, Nat.le_of_ble_eq_true rfl⟩ (fun r_28 _ H locs hq hP hD hS => ?_)
          have hq : r_28 = atX 60 gco (nI k) := hq
          subst hq
          have hP : va_P D vwCl (oX3 tx (nI tn) to tc tr ts tu tco te twp (nI k) :: aI cI tco 60 gco :: X) H := pm_P hP 2 [1, 0] rfl
          have hD : va_D A (oX3 tx (nI tn) to tc tr ts tu tco te twp (nI k) :: aI cI tco 60 gco :: X) := pm_D hD 2 [1, 0] rfl rfl rfl
          refine top_i (y := (gco k)) (at_nI (by omega) (by decide)) ?_
          refine cS_i CF hK hN hA hS (cut_of 2 [0, 1] hP hD rfl rfl rfl) (m_isDigit l D cI cZ cW cJ A (oX3 tx (nI tn) to tc tr ts tu tco te twp (nI k) :: aI cI tco 60 gco :: X) (gco k)) (va_cwS 1 hts gX3_nextNumber_X3_isDigit rfl rfl rfl (by decide +kernel) ⟨Nat.le_of_ble_eq_true rfl, Nat.le_of_ble_eq_true rfl⟩) (As := [.int (gco k)]) (rest := []) rfl hl.1 rfl (Nat.le_of_ble_eq_true rfl) dX3_nextNumber_31 ⟨Nat.le_of_ble_eq_true rfl, Nat.le_of_ble_eq_true rfl⟩ (fun r_31 _ H locs hq hP hD hS => ?_)
          have hq : r_31 = bI (digX (gco k)) := hq
          subst hq
          have hP : va_P D vwCl (oX3 tx (nI tn) to tc tr ts tu tco te twp (nI k) :: aI cI tco 60 gco :: X) H := pm_P hP 2 [0, 1] rfl
          have hD : va_D A (oX3 tx (nI tn) to tc tr ts tu tco te twp (nI k) :: aI cI tco 60 gco :: X) := pm_D hD 2 [0, 1] rfl rfl rfl
          refine lv_if_eq (tgt := 56) hx hb dX3_nextNumber_34 (by decide) (fun c_34 => ?_) (fun c_34 => ?_)
          · refine lv_iload_n hx hb dX3_nextNumber_56 rfl (lv_at hl 1 rfl) ?_
            exact W.iret (v := a9) hx hb hr (fun t9 ht9 hW9 => ⟨⟨a9, k, rfl, by rw [← hv, show 2 - ic = (1 - ic) + 1 by omega, numF, if_pos hk9, if_neg (by rw [bf_c c_34]; decide)]; exact ⟨rfl, rfl⟩, by rw [ht9]; exact hP, hD⟩, hS.F ht9⟩) hS.2.2 dX3_nextNumber_57
          · refine lv_bipush (v := 10) hx hb dX3_nextNumber_37 (by decide) ?_
            refine lv_iload_n hx hb dX3_nextNumber_39 rfl (lv_at hl 1 rfl) ?_
            refine lv_imul hx hb dX3_nextNumber_40 ?_
            refine lv_aload_n hx hb dX3_nextNumber_41 rfl (lv_at hl 2 rfl) ?_
            refine cV_i CF hK hN hA hS (cut_of 2 [0, 1] hP hD rfl rfl rfl) (m_nextCode l D cI cZ cW cJ A (X) tx tco (nI tn) to tc tr ts tu te twp gco k) (cwV 0 hts gX3_nextNumber_X3_nextCode rfl rfl rfl (by decide +kernel) ⟨Nat.le_of_ble_eq_true rfl, Nat.le_of_ble_eq_true rfl⟩) (As := []) (rest := [.int (10 * a9)]) (ci := 3) (q0 := 0) rfl rfl rfl hl.1 rfl (Nat.le_of_ble_eq_true rfl) dX3_nextNumber_42 ⟨Nat.le_of_ble_eq_true rfl, Nat.le_of_ble_eq_true rfl⟩ (fun r_42 _ H locs hq hP hD hS => ?_)
            have hq : r_42 = atX 60 gco (nI k) := hq
            subst hq
            have hP : va_P D vwCl (oX3 tx (nI tn) to tc tr ts tu tco te twp (nI (k + 1)) :: aI cI tco 60 gco :: X) H := pm_P hP 2 [0, 1] rfl
            have hD : va_D A (oX3 tx (nI tn) to tc tr ts tu tco te twp (nI (k + 1)) :: aI cI tco 60 gco :: X) := pm_D hD 2 [0, 1] rfl rfl rfl
            refine top_i (y := (gco k)) (at_nI (by omega) (by decide)) ?_
            refine lv_iadd hx hb dX3_nextNumber_45 ?_
            refine lv_bipush (v := 48) hx hb dX3_nextNumber_46 (by decide) ?_
            refine lv_isub hx hb dX3_nextNumber_48 ?_
            refine lv_istore_n (lv' := [(1, .int (((10 * a9) + (gco k)) - 48)), (2, .int (nI ic)), (0, .ref tx)]) hx hb dX3_nextNumber_49 rfl hl (by decide) rfl (fun ls hl => ?_)
            refine lv_iinc (v := (nI (ic + 1))) (lv' := [(2, .int (nI (ic + 1))), (1, .int (((10 * a9) + (gco k)) - 48)), (0, .ref tx)]) hx hb dX3_nextNumber_50 hl (k := 1) rfl (nI_1 ic) (by decide) rfl (fun ls hl => ?_)
            refine lv_goto (tgt := 4) hx hb dX3_nextNumber_53 (by decide) ?_
            exact ih_4 (k + 1) (ic + 1) (10 * a9 + gco k - 48) (by omega) (by omega) (by omega) (by rw [← hv, show 2 - ic = (2 - (ic + 1)) + 1 by omega, numF, if_pos hk9, if_pos (bt_c c_34)]) _ _ (hP) (hD) hS _ (lv_sub hl [0, 1, 2] rfl)
  exact loop_4 _ pn 0 0 (Nat.lt_succ_self _) (by omega) (by omega) (rfl) _ _ hP hD hS _ (lv_sub hl [0, 1, 2] rfl)
abbrev RD : Type := Int32 × Int32 × Int32 × Int32 × Int32 × Nat
def rdF (co : Nat → Int32) (n p : Nat) (tc tr ts tu : Int32) : RD :=
  if atX 60 co (nI p) = 98 then (98, (numF co n 2 (p + 1) 0).1, (numF co n 2 ((numF co n 2 (p + 1) 0).2 + 1) 0).1, ts, tu, (numF co n 2 ((numF co n 2 (p + 1) 0).2 + 1) 0).2 + 1)
  else if atX 60 co (nI p) = 108 then (108, tc, tr, (if atX 60 co (nI (p + 1)) = 43 then 1 else -1), (numF co n 2 (p + 2) 0).1, (numF co n 2 (p + 2) 0).2 + 1)
  else (atX 60 co (nI p), tc, tr, (if atX 60 co (nI (p + 1)) = 43 then 1 else -1), 0, p + 3)
theorem numF_le (co : Nat → Int32) (n : Nat) : ∀ (f p : Nat) (a : Int32), (numF co n f p a).2 ≤ p + f := by
  intro f
  induction f with
  | zero => intro p a; exact Nat.le_refl _
  | succ f ih =>
    intro p a
    rw [numF]
    split
    · split
      · have := ih (p + 1) (10 * a + co p - 48); omega
      · exact Nat.le_add_right _ _
    · exact Nat.le_add_right _ _
theorem numF_le2 (co : Nat → Int32) (n : Nat) : ∀ (f p : Nat) (a : Int32), (numF co n f p a).2 ≤ max p n := by
  intro f
  induction f with
  | zero => intro p a; exact Nat.le_max_left _ _
  | succ f ih =>
    intro p a
    rw [numF]
    split
    · split
      · have := ih (p + 1) (10 * a + co p - 48); omega
      · exact Nat.le_max_left _ _
    · exact Nat.le_max_left _ _
set_option maxHeartbeats 4000000 in
set_option maxRecDepth 100000 in
theorem m_readOrder (l : Launch) (D : va_G) (cI cZ cW cJ : ClassId) (A : Nat → Prop) (X : va_W) (tx tco tn : Nat) (to tc tr ts tu te twp : Int32) (gco : Nat → Int32) (pn : Nat) (htn : tn ≤ 60) (hpn : pn ≤ 60) : Met l yX3_readOrder wsX3_readOrder ({ frames := 3, cells := 0, slots := 0, locals := 63 }) (va_Pc [.ref tx] (wd D (tyL cI cZ cW cJ) A (oX3 tx (nI tn) to tc tr ts tu tco te twp (nI pn) :: aI cI tco 60 gco :: X))) (va_Qv (fun (u : RD) => u = rdF gco tn pn tc tr ts tu) (fun (u : RD) t => wq D A (oX3 tx (nI tn) u.1 u.2.1 u.2.2.1 u.2.2.2.1 u.2.2.2.2.1 tco te twp (nI u.2.2.2.2.2) :: aI cI tco 60 gco :: X) t) A) 0 0 A := by
  refine Met.ofW (cc := cX3_readOrder) (maxL := 1) (ret := none) (by decide) rfl ?_
  intro p e s m args below meth c s₁ B hml hv
  obtain ⟨rfl, hsz9, hP, hK, hD, hN⟩ := hv
  have hx := B.exec
  have hb := B.bytes
  have hr := B.returns
  have hts := atoms_spec (ws := wsX3_readOrder) B.pre
  have hown : s.vm.findClass RX3 = some m.cls := findClass_of_methodNamed B.named
  have hlocks := B.notSynchronized
  have CF : CallFix p m c cX3_readOrder 1 s _ wsX3_readOrder RX3 := ⟨hx, hb, hml, hown, hts⟩
  have hA : ∀ q : Nat, s.heap.size ≤ q → A q := hsz9
  have hS : va_S A s.heap s.heap [] := va_S.rf
  have hiX3 : ∀ w ∈ u_ws RX3 TX3 10, w ∈ wsX3_readOrder := fun _ h => List.mem_cons_of_mem _ (List.mem_append_right _ (h))
  have hl := lv_entry ([.ref tx]) (n := 1) (Nat.le_of_ble_eq_true rfl)
  rw [lg_entry_eq]
  generalize (lg_sl ([.ref tx]) ++ List.replicate (1 - (lg_sl ([.ref tx])).length) Slot.unset).toArray = ls at hl ⊢
  have hl : lv_has ls 1 [(0, .ref tx)] := hl
  show W p l e ({ frames := 3, cells := 0, slots := 0, locals := 63 } : Room) s m (([.ref tx] : List Value).toArray) below meth c s.heap [] 0 0 (MQ below (va_Qv (fun (u : RD) => u = rdF gco tn pn tc tr ts tu) (fun (u : RD) t => wq D A (oX3 tx (nI tn) u.1 u.2.1 u.2.2.1 u.2.2.2.1 u.2.2.2.2.1 tco te twp (nI u.2.2.2.2.2) :: aI cI tco 60 gco :: X) t) A) (([.ref tx] : List Value).toArray) s 0 0 A) (F0 m 0 ls [])
  refine lv_aload_n hx hb dX3_readOrder_0 rfl (lv_at hl 0 rfl) ?_
  refine lv_aload_n hx hb dX3_readOrder_1 rfl (lv_at hl 0 rfl) ?_
  refine cV_i CF hK hN hA hS (cut_of 2 [0, 1] hP hD rfl rfl rfl) (m_nextCode l D cI cZ cW cJ A (X) tx tco (nI tn) to tc tr ts tu te twp gco pn) (cwV 0 hts gX3_readOrder_X3_nextCode rfl rfl rfl (by decide +kernel) ⟨Nat.le_of_ble_eq_true rfl, Nat.le_of_ble_eq_true rfl⟩) (As := []) (rest := [.ref tx]) (ci := 3) (q0 := 0) rfl rfl rfl hl.1 rfl (Nat.le_of_ble_eq_true rfl) dX3_readOrder_2 ⟨Nat.le_of_ble_eq_true rfl, Nat.le_of_ble_eq_true rfl⟩ (fun r_2 _ H locs hq hP hD hS => ?_)
  have hq : r_2 = atX 60 gco (nI pn) := hq
  subst hq
  have hP : va_P D vwCl (oX3 tx (nI tn) to tc tr ts tu tco te twp (nI (pn + 1)) :: aI cI tco 60 gco :: X) H := pm_P hP 2 [0, 1] rfl
  have hD : va_D A (oX3 tx (nI tn) to tc tr ts tu tco te twp (nI (pn + 1)) :: aI cI tco 60 gco :: X) := pm_D hD 2 [0, 1] rfl rfl rfl
  refine va_put (D := D) (ci := 3) (v := .int (atX 60 gco (nI pn))) (ty := .int) (C := RX3) (T := TX3) (N := 10) hx hb hts hiX3 tyX3 tyX3_ok nmX3 hown hK hP hD hS 0 rfl rfl 1 (by decide) (hts (.fieldLink RX3 58 "LedgeLeaps$OrderText" "order" "I") (List.mem_of_getElem? (i := 1) rfl)) (fun _ h9 => h9) rfl (by decide +kernel) rfl rfl (Nat.le_of_ble_eq_true rfl) dX3_readOrder_5 (fun H locs hP hD hS => ?_)
  have hP : va_P D vwCl (oX3 tx (nI tn) (atX 60 gco (nI pn)) tc tr ts tu tco te twp (nI (pn + 1)) :: aI cI tco 60 gco :: X) H := hP
  have hD : va_D A (oX3 tx (nI tn) (atX 60 gco (nI pn)) tc tr ts tu tco te twp (nI (pn + 1)) :: aI cI tco 60 gco :: X) := hD
  refine lv_aload_n hx hb dX3_readOrder_8 rfl (lv_at hl 0 rfl) ?_
  refine va_get (D := D) (ci := 3) (v := .int (atX 60 gco (nI pn))) (C := RX3) (T := TX3) (N := 10) hx hb hts hiX3 hown hK hP 0 rfl rfl 1 (by decide) (hts (.fieldLink RX3 58 "LedgeLeaps$OrderText" "order" "I") (List.mem_of_getElem? (i := 1) rfl)) (fun _ h9 => h9) rfl dX3_readOrder_9 ?_
  refine lv_bipush (v := 98) hx hb dX3_readOrder_12 (by decide) ?_
  refine lv_icmp_ne (tgt := 41) hx hb dX3_readOrder_14 (by decide) (fun c_14 => ?_) (fun c_14 => ?_)
  · refine lv_aload_n hx hb dX3_readOrder_41 rfl (lv_at hl 0 rfl) ?_
    refine lv_aload_n hx hb dX3_readOrder_42 rfl (lv_at hl 0 rfl) ?_
    refine cV_i CF hK hN hA hS (cut_of 2 [0, 1] hP hD rfl rfl rfl) (m_nextCode l D cI cZ cW cJ A (X) tx tco (nI tn) (atX 60 gco (nI pn)) tc tr ts tu te twp gco (pn + 1)) (cwV 0 hts gX3_readOrder_X3_nextCode rfl rfl rfl (by decide +kernel) ⟨Nat.le_of_ble_eq_true rfl, Nat.le_of_ble_eq_true rfl⟩) (As := []) (rest := [.ref tx]) (ci := 3) (q0 := 0) rfl rfl rfl hl.1 rfl (Nat.le_of_ble_eq_true rfl) dX3_readOrder_43 ⟨Nat.le_of_ble_eq_true rfl, Nat.le_of_ble_eq_true rfl⟩ (fun r_43 _ H locs hq hP hD hS => ?_)
    have hq : r_43 = atX 60 gco (nI (pn + 1)) := hq
    subst hq
    have hP : va_P D vwCl (oX3 tx (nI tn) (atX 60 gco (nI pn)) tc tr ts tu tco te twp (nI ((pn + 1) + 1)) :: aI cI tco 60 gco :: X) H := pm_P hP 2 [0, 1] rfl
    have hD : va_D A (oX3 tx (nI tn) (atX 60 gco (nI pn)) tc tr ts tu tco te twp (nI ((pn + 1) + 1)) :: aI cI tco 60 gco :: X) := pm_D hD 2 [0, 1] rfl rfl rfl
    refine lv_bipush (v := 43) hx hb dX3_readOrder_46 (by decide) ?_
    refine lv_icmp_ne (tgt := 55) hx hb dX3_readOrder_48 (by decide) (fun c_48 => ?_) (fun c_48 => ?_)
    · refine lv_iconst (v := (-1)) hx hb dX3_readOrder_55 (by decide) ?_
      refine va_put (D := D) (ci := 3) (v := .int (-1)) (ty := .int) (C := RX3) (T := TX3) (N := 10) hx hb hts hiX3 tyX3 tyX3_ok nmX3 hown hK hP hD hS 0 rfl rfl 4 (by decide) (hts (.fieldLink RX3 70 "LedgeLeaps$OrderText" "side" "I") (List.mem_of_getElem? (i := 4) rfl)) (fun _ h9 => h9) rfl (by decide +kernel) rfl rfl (Nat.le_of_ble_eq_true rfl) dX3_readOrder_56 (fun H locs hP hD hS => ?_)
      have hP : va_P D vwCl (oX3 tx (nI tn) (atX 60 gco (nI pn)) tc tr (-1) tu tco te twp (nI ((pn + 1) + 1)) :: aI cI tco 60 gco :: X) H := hP
      have hD : va_D A (oX3 tx (nI tn) (atX 60 gco (nI pn)) tc tr (-1) tu tco te twp (nI ((pn + 1) + 1)) :: aI cI tco 60 gco :: X) := hD
      refine lv_aload_n hx hb dX3_readOrder_59 rfl (lv_at hl 0 rfl) ?_
      refine lv_aload_n hx hb dX3_readOrder_60 rfl (lv_at hl 0 rfl) ?_
      refine va_get (D := D) (ci := 3) (v := .int (atX 60 gco (nI pn))) (C := RX3) (T := TX3) (N := 10) hx hb hts hiX3 hown hK hP 0 rfl rfl 1 (by decide) (hts (.fieldLink RX3 58 "LedgeLeaps$OrderText" "order" "I") (List.mem_of_getElem? (i := 1) rfl)) (fun _ h9 => h9) rfl dX3_readOrder_61 ?_
      refine lv_bipush (v := 108) hx hb dX3_readOrder_64 (by decide) ?_
      refine lv_icmp_ne (tgt := 76) hx hb dX3_readOrder_66 (by decide) (fun c_66 => ?_) (fun c_66 => ?_)
      · refine lv_iconst (v := 0) hx hb dX3_readOrder_76 (by decide) ?_
        refine va_put (D := D) (ci := 3) (v := .int 0) (ty := .int) (C := RX3) (T := TX3) (N := 10) hx hb hts hiX3 tyX3 tyX3_ok nmX3 hown hK hP hD hS 0 rfl rfl 5 (by decide) (hts (.fieldLink RX3 73 "LedgeLeaps$OrderText" "runUp" "I") (List.mem_of_getElem? (i := 5) rfl)) (fun _ h9 => h9) rfl (by decide +kernel) rfl rfl (Nat.le_of_ble_eq_true rfl) dX3_readOrder_77 (fun H locs hP hD hS => ?_)
        have hP : va_P D vwCl (oX3 tx (nI tn) (atX 60 gco (nI pn)) tc tr (-1) 0 tco te twp (nI ((pn + 1) + 1)) :: aI cI tco 60 gco :: X) H := hP
        have hD : va_D A (oX3 tx (nI tn) (atX 60 gco (nI pn)) tc tr (-1) 0 tco te twp (nI ((pn + 1) + 1)) :: aI cI tco 60 gco :: X) := hD
        refine lv_aload_n hx hb dX3_readOrder_80 rfl (lv_at hl 0 rfl) ?_
        refine cV_i CF hK hN hA hS (cut_of 2 [0, 1] hP hD rfl rfl rfl) (m_nextCode l D cI cZ cW cJ A (X) tx tco (nI tn) (atX 60 gco (nI pn)) tc tr (-1) 0 te twp gco ((pn + 1) + 1)) (cwV 0 hts gX3_readOrder_X3_nextCode rfl rfl rfl (by decide +kernel) ⟨Nat.le_of_ble_eq_true rfl, Nat.le_of_ble_eq_true rfl⟩) (As := []) (rest := []) (ci := 3) (q0 := 0) rfl rfl rfl hl.1 rfl (Nat.le_of_ble_eq_true rfl) dX3_readOrder_81 ⟨Nat.le_of_ble_eq_true rfl, Nat.le_of_ble_eq_true rfl⟩ (fun r_81 _ H locs hq hP hD hS => ?_)
        have hq : r_81 = atX 60 gco (nI ((pn + 1) + 1)) := hq
        subst hq
        have hP : va_P D vwCl (oX3 tx (nI tn) (atX 60 gco (nI pn)) tc tr (-1) 0 tco te twp (nI (((pn + 1) + 1) + 1)) :: aI cI tco 60 gco :: X) H := pm_P hP 2 [0, 1] rfl
        have hD : va_D A (oX3 tx (nI tn) (atX 60 gco (nI pn)) tc tr (-1) 0 tco te twp (nI (((pn + 1) + 1) + 1)) :: aI cI tco 60 gco :: X) := pm_D hD 2 [0, 1] rfl rfl rfl
        refine lv_pop hx hb dX3_readOrder_84 rfl ?_
        exact W.vret hx hb hr (fun t9 ht9 hW9 => ⟨⟨((atX 60 gco (nI pn)), tc, tr, (-1), 0, (((pn + 1) + 1) + 1)), rfl, by rw [rdF, if_neg c_14, if_neg c_66, if_neg c_48], by rw [ht9]; exact hP, hD⟩, hS.F ht9⟩) hS.2.2 dX3_readOrder_85
      · refine lv_aload_n hx hb dX3_readOrder_69 rfl (lv_at hl 0 rfl) ?_
        refine cV_i CF hK hN hA hS (cut_of 2 [0, 1] hP hD rfl rfl rfl) (m_nextNumber l D cI cZ cW cJ A (X) tx tco tn (atX 60 gco (nI pn)) tc tr (-1) tu te twp gco ((pn + 1) + 1) htn (by omega)) (cwV 0 hts gX3_readOrder_X3_nextNumber rfl rfl rfl (by decide +kernel) ⟨Nat.le_of_ble_eq_true rfl, Nat.le_of_ble_eq_true rfl⟩) (As := []) (rest := [.ref tx]) (ci := 3) (q0 := 0) rfl rfl rfl hl.1 rfl (Nat.le_of_ble_eq_true rfl) dX3_readOrder_70 ⟨Nat.le_of_ble_eq_true rfl, Nat.le_of_ble_eq_true rfl⟩ (fun r_70 u_70 H locs hq hP hD hS => ?_)
        have hq_70 : r_70 = (numF gco tn 2 ((pn + 1) + 1) 0).1 ∧ u_70 = (numF gco tn 2 ((pn + 1) + 1) 0).2 := hq
        have hr_70 : r_70 = (numF gco tn 2 ((pn + 1) + 1) 0).1 := hq_70.1
        subst hr_70
        have hP : va_P D vwCl (oX3 tx (nI tn) (atX 60 gco (nI pn)) tc tr (-1) tu tco te twp (nI u_70) :: aI cI tco 60 gco :: X) H := pm_P hP 2 [0, 1] rfl
        have hD : va_D A (oX3 tx (nI tn) (atX 60 gco (nI pn)) tc tr (-1) tu tco te twp (nI u_70) :: aI cI tco 60 gco :: X) := pm_D hD 2 [0, 1] rfl rfl rfl
        have e_70 := hq_70.2
        rw [e_70] at hP hD
        have hP : va_P D vwCl (oX3 tx (nI tn) (atX 60 gco (nI pn)) tc tr (-1) tu tco te twp (nI (numF gco tn 2 (pn + 2) 0).2) :: aI cI tco 60 gco :: X) H := hP
        have hD : va_D A (oX3 tx (nI tn) (atX 60 gco (nI pn)) tc tr (-1) tu tco te twp (nI (numF gco tn 2 (pn + 2) 0).2) :: aI cI tco 60 gco :: X) := hD
        refine lv_goto (tgt := 77) hx hb dX3_readOrder_73 (by decide) ?_
        refine va_put (D := D) (ci := 3) (v := .int ((numF gco tn 2 ((pn + 1) + 1) 0).1)) (ty := .int) (C := RX3) (T := TX3) (N := 10) hx hb hts hiX3 tyX3 tyX3_ok nmX3 hown hK hP hD hS 0 rfl rfl 5 (by decide) (hts (.fieldLink RX3 73 "LedgeLeaps$OrderText" "runUp" "I") (List.mem_of_getElem? (i := 5) rfl)) (fun _ h9 => h9) rfl (by decide +kernel) rfl rfl (Nat.le_of_ble_eq_true rfl) dX3_readOrder_77 (fun H locs hP hD hS => ?_)
        have hP : va_P D vwCl (oX3 tx (nI tn) (atX 60 gco (nI pn)) tc tr (-1) ((numF gco tn 2 ((pn + 1) + 1) 0).1) tco te twp (nI (numF gco tn 2 (pn + 2) 0).2) :: aI cI tco 60 gco :: X) H := hP
        have hD : va_D A (oX3 tx (nI tn) (atX 60 gco (nI pn)) tc tr (-1) ((numF gco tn 2 ((pn + 1) + 1) 0).1) tco te twp (nI (numF gco tn 2 (pn + 2) 0).2) :: aI cI tco 60 gco :: X) := hD
        refine lv_aload_n hx hb dX3_readOrder_80 rfl (lv_at hl 0 rfl) ?_
        refine cV_i CF hK hN hA hS (cut_of 2 [0, 1] hP hD rfl rfl rfl) (m_nextCode l D cI cZ cW cJ A (X) tx tco (nI tn) (atX 60 gco (nI pn)) tc tr (-1) ((numF gco tn 2 ((pn + 1) + 1) 0).1) te twp gco ((numF gco tn 2 (pn + 2) 0).2)) (cwV 0 hts gX3_readOrder_X3_nextCode rfl rfl rfl (by decide +kernel) ⟨Nat.le_of_ble_eq_true rfl, Nat.le_of_ble_eq_true rfl⟩) (As := []) (rest := []) (ci := 3) (q0 := 0) rfl rfl rfl hl.1 rfl (Nat.le_of_ble_eq_true rfl) dX3_readOrder_81 ⟨Nat.le_of_ble_eq_true rfl, Nat.le_of_ble_eq_true rfl⟩ (fun r_81 _ H locs hq hP hD hS => ?_)
        have hq : r_81 = atX 60 gco (nI ((numF gco tn 2 (pn + 2) 0).2)) := hq
        subst hq
        have hP : va_P D vwCl (oX3 tx (nI tn) (atX 60 gco (nI pn)) tc tr (-1) ((numF gco tn 2 ((pn + 1) + 1) 0).1) tco te twp (nI (((numF gco tn 2 (pn + 2) 0).2) + 1)) :: aI cI tco 60 gco :: X) H := pm_P hP 2 [0, 1] rfl
        have hD : va_D A (oX3 tx (nI tn) (atX 60 gco (nI pn)) tc tr (-1) ((numF gco tn 2 ((pn + 1) + 1) 0).1) tco te twp (nI (((numF gco tn 2 (pn + 2) 0).2) + 1)) :: aI cI tco 60 gco :: X) := pm_D hD 2 [0, 1] rfl rfl rfl
        refine lv_pop hx hb dX3_readOrder_84 rfl ?_
        exact W.vret hx hb hr (fun t9 ht9 hW9 => ⟨⟨((atX 60 gco (nI pn)), tc, tr, (-1), ((numF gco tn 2 ((pn + 1) + 1) 0).1), (((numF gco tn 2 (pn + 2) 0).2) + 1)), rfl, by rw [rdF, if_neg c_14, if_pos c_66, if_neg c_48, c_66], by rw [ht9]; exact hP, hD⟩, hS.F ht9⟩) hS.2.2 dX3_readOrder_85
    · refine lv_iconst (v := 1) hx hb dX3_readOrder_51 (by decide) ?_
      refine lv_goto (tgt := 56) hx hb dX3_readOrder_52 (by decide) ?_
      refine va_put (D := D) (ci := 3) (v := .int 1) (ty := .int) (C := RX3) (T := TX3) (N := 10) hx hb hts hiX3 tyX3 tyX3_ok nmX3 hown hK hP hD hS 0 rfl rfl 4 (by decide) (hts (.fieldLink RX3 70 "LedgeLeaps$OrderText" "side" "I") (List.mem_of_getElem? (i := 4) rfl)) (fun _ h9 => h9) rfl (by decide +kernel) rfl rfl (Nat.le_of_ble_eq_true rfl) dX3_readOrder_56 (fun H locs hP hD hS => ?_)
      have hP : va_P D vwCl (oX3 tx (nI tn) (atX 60 gco (nI pn)) tc tr 1 tu tco te twp (nI ((pn + 1) + 1)) :: aI cI tco 60 gco :: X) H := hP
      have hD : va_D A (oX3 tx (nI tn) (atX 60 gco (nI pn)) tc tr 1 tu tco te twp (nI ((pn + 1) + 1)) :: aI cI tco 60 gco :: X) := hD
      refine lv_aload_n hx hb dX3_readOrder_59 rfl (lv_at hl 0 rfl) ?_
      refine lv_aload_n hx hb dX3_readOrder_60 rfl (lv_at hl 0 rfl) ?_
      refine va_get (D := D) (ci := 3) (v := .int (atX 60 gco (nI pn))) (C := RX3) (T := TX3) (N := 10) hx hb hts hiX3 hown hK hP 0 rfl rfl 1 (by decide) (hts (.fieldLink RX3 58 "LedgeLeaps$OrderText" "order" "I") (List.mem_of_getElem? (i := 1) rfl)) (fun _ h9 => h9) rfl dX3_readOrder_61 ?_
      refine lv_bipush (v := 108) hx hb dX3_readOrder_64 (by decide) ?_
      refine lv_icmp_ne (tgt := 76) hx hb dX3_readOrder_66 (by decide) (fun c_66 => ?_) (fun c_66 => ?_)
      · refine lv_iconst (v := 0) hx hb dX3_readOrder_76 (by decide) ?_
        refine va_put (D := D) (ci := 3) (v := .int 0) (ty := .int) (C := RX3) (T := TX3) (N := 10) hx hb hts hiX3 tyX3 tyX3_ok nmX3 hown hK hP hD hS 0 rfl rfl 5 (by decide) (hts (.fieldLink RX3 73 "LedgeLeaps$OrderText" "runUp" "I") (List.mem_of_getElem? (i := 5) rfl)) (fun _ h9 => h9) rfl (by decide +kernel) rfl rfl (Nat.le_of_ble_eq_true rfl) dX3_readOrder_77 (fun H locs hP hD hS => ?_)
        have hP : va_P D vwCl (oX3 tx (nI tn) (atX 60 gco (nI pn)) tc tr 1 0 tco te twp (nI ((pn + 1) + 1)) :: aI cI tco 60 gco :: X) H := hP
        have hD : va_D A (oX3 tx (nI tn) (atX 60 gco (nI pn)) tc tr 1 0 tco te twp (nI ((pn + 1) + 1)) :: aI cI tco 60 gco :: X) := hD
        refine lv_aload_n hx hb dX3_readOrder_80 rfl (lv_at hl 0 rfl) ?_
        refine cV_i CF hK hN hA hS (cut_of 2 [0, 1] hP hD rfl rfl rfl) (m_nextCode l D cI cZ cW cJ A (X) tx tco (nI tn) (atX 60 gco (nI pn)) tc tr 1 0 te twp gco ((pn + 1) + 1)) (cwV 0 hts gX3_readOrder_X3_nextCode rfl rfl rfl (by decide +kernel) ⟨Nat.le_of_ble_eq_true rfl, Nat.le_of_ble_eq_true rfl⟩) (As := []) (rest := []) (ci := 3) (q0 := 0) rfl rfl rfl hl.1 rfl (Nat.le_of_ble_eq_true rfl) dX3_readOrder_81 ⟨Nat.le_of_ble_eq_true rfl, Nat.le_of_ble_eq_true rfl⟩ (fun r_81 _ H locs hq hP hD hS => ?_)
        have hq : r_81 = atX 60 gco (nI ((pn + 1) + 1)) := hq
        subst hq
        have hP : va_P D vwCl (oX3 tx (nI tn) (atX 60 gco (nI pn)) tc tr 1 0 tco te twp (nI (((pn + 1) + 1) + 1)) :: aI cI tco 60 gco :: X) H := pm_P hP 2 [0, 1] rfl
        have hD : va_D A (oX3 tx (nI tn) (atX 60 gco (nI pn)) tc tr 1 0 tco te twp (nI (((pn + 1) + 1) + 1)) :: aI cI tco 60 gco :: X) := pm_D hD 2 [0, 1] rfl rfl rfl
        refine lv_pop hx hb dX3_readOrder_84 rfl ?_
        exact W.vret hx hb hr (fun t9 ht9 hW9 => ⟨⟨((atX 60 gco (nI pn)), tc, tr, 1, 0, (((pn + 1) + 1) + 1)), rfl, by rw [rdF, if_neg c_14, if_neg c_66, if_pos c_48], by rw [ht9]; exact hP, hD⟩, hS.F ht9⟩) hS.2.2 dX3_readOrder_85
      · refine lv_aload_n hx hb dX3_readOrder_69 rfl (lv_at hl 0 rfl) ?_
        refine cV_i CF hK hN hA hS (cut_of 2 [0, 1] hP hD rfl rfl rfl) (m_nextNumber l D cI cZ cW cJ A (X) tx tco tn (atX 60 gco (nI pn)) tc tr 1 tu te twp gco ((pn + 1) + 1) htn (by omega)) (cwV 0 hts gX3_readOrder_X3_nextNumber rfl rfl rfl (by decide +kernel) ⟨Nat.le_of_ble_eq_true rfl, Nat.le_of_ble_eq_true rfl⟩) (As := []) (rest := [.ref tx]) (ci := 3) (q0 := 0) rfl rfl rfl hl.1 rfl (Nat.le_of_ble_eq_true rfl) dX3_readOrder_70 ⟨Nat.le_of_ble_eq_true rfl, Nat.le_of_ble_eq_true rfl⟩ (fun r_70 u_70 H locs hq hP hD hS => ?_)
        have hq_70 : r_70 = (numF gco tn 2 ((pn + 1) + 1) 0).1 ∧ u_70 = (numF gco tn 2 ((pn + 1) + 1) 0).2 := hq
        have hr_70 : r_70 = (numF gco tn 2 ((pn + 1) + 1) 0).1 := hq_70.1
        subst hr_70
        have hP : va_P D vwCl (oX3 tx (nI tn) (atX 60 gco (nI pn)) tc tr 1 tu tco te twp (nI u_70) :: aI cI tco 60 gco :: X) H := pm_P hP 2 [0, 1] rfl
        have hD : va_D A (oX3 tx (nI tn) (atX 60 gco (nI pn)) tc tr 1 tu tco te twp (nI u_70) :: aI cI tco 60 gco :: X) := pm_D hD 2 [0, 1] rfl rfl rfl
        have e_70 := hq_70.2
        rw [e_70] at hP hD
        have hP : va_P D vwCl (oX3 tx (nI tn) (atX 60 gco (nI pn)) tc tr 1 tu tco te twp (nI (numF gco tn 2 (pn + 2) 0).2) :: aI cI tco 60 gco :: X) H := hP
        have hD : va_D A (oX3 tx (nI tn) (atX 60 gco (nI pn)) tc tr 1 tu tco te twp (nI (numF gco tn 2 (pn + 2) 0).2) :: aI cI tco 60 gco :: X) := hD
        refine lv_goto (tgt := 77) hx hb dX3_readOrder_73 (by decide) ?_
        refine va_put (D := D) (ci := 3) (v := .int ((numF gco tn 2 ((pn + 1) + 1) 0).1)) (ty := .int) (C := RX3) (T := TX3) (N := 10) hx hb hts hiX3 tyX3 tyX3_ok nmX3 hown hK hP hD hS 0 rfl rfl 5 (by decide) (hts (.fieldLink RX3 73 "LedgeLeaps$OrderText" "runUp" "I") (List.mem_of_getElem? (i := 5) rfl)) (fun _ h9 => h9) rfl (by decide +kernel) rfl rfl (Nat.le_of_ble_eq_true rfl) dX3_readOrder_77 (fun H locs hP hD hS => ?_)
        have hP : va_P D vwCl (oX3 tx (nI tn) (atX 60 gco (nI pn)) tc tr 1 ((numF gco tn 2 ((pn + 1) + 1) 0).1) tco te twp (nI (numF gco tn 2 (pn + 2) 0).2) :: aI cI tco 60 gco :: X) H := hP
        have hD : va_D A (oX3 tx (nI tn) (atX 60 gco (nI pn)) tc tr 1 ((numF gco tn 2 ((pn + 1) + 1) 0).1) tco te twp (nI (numF gco tn 2 (pn + 2) 0).2) :: aI cI tco 60 gco :: X) := hD
        refine lv_aload_n hx hb dX3_readOrder_80 rfl (lv_at hl 0 rfl) ?_
        refine cV_i CF hK hN hA hS (cut_of 2 [0, 1] hP hD rfl rfl rfl) (m_nextCode l D cI cZ cW cJ A (X) tx tco (nI tn) (atX 60 gco (nI pn)) tc tr 1 ((numF gco tn 2 ((pn + 1) + 1) 0).1) te twp gco ((numF gco tn 2 (pn + 2) 0).2)) (cwV 0 hts gX3_readOrder_X3_nextCode rfl rfl rfl (by decide +kernel) ⟨Nat.le_of_ble_eq_true rfl, Nat.le_of_ble_eq_true rfl⟩) (As := []) (rest := []) (ci := 3) (q0 := 0) rfl rfl rfl hl.1 rfl (Nat.le_of_ble_eq_true rfl) dX3_readOrder_81 ⟨Nat.le_of_ble_eq_true rfl, Nat.le_of_ble_eq_true rfl⟩ (fun r_81 _ H locs hq hP hD hS => ?_)
        have hq : r_81 = atX 60 gco (nI ((numF gco tn 2 (pn + 2) 0).2)) := hq
        subst hq
        have hP : va_P D vwCl (oX3 tx (nI tn) (atX 60 gco (nI pn)) tc tr 1 ((numF gco tn 2 ((pn + 1) + 1) 0).1) tco te twp (nI (((numF gco tn 2 (pn + 2) 0).2) + 1)) :: aI cI tco 60 gco :: X) H := pm_P hP 2 [0, 1] rfl
        have hD : va_D A (oX3 tx (nI tn) (atX 60 gco (nI pn)) tc tr 1 ((numF gco tn 2 ((pn + 1) + 1) 0).1) tco te twp (nI (((numF gco tn 2 (pn + 2) 0).2) + 1)) :: aI cI tco 60 gco :: X) := pm_D hD 2 [0, 1] rfl rfl rfl
        refine lv_pop hx hb dX3_readOrder_84 rfl ?_
        exact W.vret hx hb hr (fun t9 ht9 hW9 => ⟨⟨((atX 60 gco (nI pn)), tc, tr, 1, ((numF gco tn 2 ((pn + 1) + 1) 0).1), (((numF gco tn 2 (pn + 2) 0).2) + 1)), rfl, by rw [rdF, if_neg c_14, if_pos c_66, if_pos c_48, c_66], by rw [ht9]; exact hP, hD⟩, hS.F ht9⟩) hS.2.2 dX3_readOrder_85
  · refine lv_aload_n hx hb dX3_readOrder_17 rfl (lv_at hl 0 rfl) ?_
    refine lv_aload_n hx hb dX3_readOrder_18 rfl (lv_at hl 0 rfl) ?_
    refine cV_i CF hK hN hA hS (cut_of 2 [0, 1] hP hD rfl rfl rfl) (m_nextNumber l D cI cZ cW cJ A (X) tx tco tn (atX 60 gco (nI pn)) tc tr ts tu te twp gco (pn + 1) htn (by omega)) (cwV 0 hts gX3_readOrder_X3_nextNumber rfl rfl rfl (by decide +kernel) ⟨Nat.le_of_ble_eq_true rfl, Nat.le_of_ble_eq_true rfl⟩) (As := []) (rest := [.ref tx]) (ci := 3) (q0 := 0) rfl rfl rfl hl.1 rfl (Nat.le_of_ble_eq_true rfl) dX3_readOrder_19 ⟨Nat.le_of_ble_eq_true rfl, Nat.le_of_ble_eq_true rfl⟩ (fun r_19 u_19 H locs hq hP hD hS => ?_)
    have hq_19 : r_19 = (numF gco tn 2 (pn + 1) 0).1 ∧ u_19 = (numF gco tn 2 (pn + 1) 0).2 := hq
    have hr_19 : r_19 = (numF gco tn 2 (pn + 1) 0).1 := hq_19.1
    subst hr_19
    have hP : va_P D vwCl (oX3 tx (nI tn) (atX 60 gco (nI pn)) tc tr ts tu tco te twp (nI u_19) :: aI cI tco 60 gco :: X) H := pm_P hP 2 [0, 1] rfl
    have hD : va_D A (oX3 tx (nI tn) (atX 60 gco (nI pn)) tc tr ts tu tco te twp (nI u_19) :: aI cI tco 60 gco :: X) := pm_D hD 2 [0, 1] rfl rfl rfl
    have e_19 := hq_19.2
    rw [e_19] at hP hD
    have hP : va_P D vwCl (oX3 tx (nI tn) (atX 60 gco (nI pn)) tc tr ts tu tco te twp (nI (numF gco tn 2 (pn + 1) 0).2) :: aI cI tco 60 gco :: X) H := hP
    have hD : va_D A (oX3 tx (nI tn) (atX 60 gco (nI pn)) tc tr ts tu tco te twp (nI (numF gco tn 2 (pn + 1) 0).2) :: aI cI tco 60 gco :: X) := hD
    refine va_put (D := D) (ci := 3) (v := .int ((numF gco tn 2 (pn + 1) 0).1)) (ty := .int) (C := RX3) (T := TX3) (N := 10) hx hb hts hiX3 tyX3 tyX3_ok nmX3 hown hK hP hD hS 0 rfl rfl 2 (by decide) (hts (.fieldLink RX3 64 "LedgeLeaps$OrderText" "column" "I") (List.mem_of_getElem? (i := 2) rfl)) (fun _ h9 => h9) rfl (by decide +kernel) rfl rfl (Nat.le_of_ble_eq_true rfl) dX3_readOrder_22 (fun H locs hP hD hS => ?_)
    have hP : va_P D vwCl (oX3 tx (nI tn) (atX 60 gco (nI pn)) ((numF gco tn 2 (pn + 1) 0).1) tr ts tu tco te twp (nI (numF gco tn 2 (pn + 1) 0).2) :: aI cI tco 60 gco :: X) H := hP
    have hD : va_D A (oX3 tx (nI tn) (atX 60 gco (nI pn)) ((numF gco tn 2 (pn + 1) 0).1) tr ts tu tco te twp (nI (numF gco tn 2 (pn + 1) 0).2) :: aI cI tco 60 gco :: X) := hD
    refine lv_aload_n hx hb dX3_readOrder_25 rfl (lv_at hl 0 rfl) ?_
    refine cV_i CF hK hN hA hS (cut_of 2 [0, 1] hP hD rfl rfl rfl) (m_nextCode l D cI cZ cW cJ A (X) tx tco (nI tn) (atX 60 gco (nI pn)) ((numF gco tn 2 (pn + 1) 0).1) tr ts tu te twp gco ((numF gco tn 2 (pn + 1) 0).2)) (cwV 0 hts gX3_readOrder_X3_nextCode rfl rfl rfl (by decide +kernel) ⟨Nat.le_of_ble_eq_true rfl, Nat.le_of_ble_eq_true rfl⟩) (As := []) (rest := []) (ci := 3) (q0 := 0) rfl rfl rfl hl.1 rfl (Nat.le_of_ble_eq_true rfl) dX3_readOrder_26 ⟨Nat.le_of_ble_eq_true rfl, Nat.le_of_ble_eq_true rfl⟩ (fun r_26 _ H locs hq hP hD hS => ?_)
    have hq : r_26 = atX 60 gco (nI ((numF gco tn 2 (pn + 1) 0).2)) := hq
    subst hq
    have hP : va_P D vwCl (oX3 tx (nI tn) (atX 60 gco (nI pn)) ((numF gco tn 2 (pn + 1) 0).1) tr ts tu tco te twp (nI (((numF gco tn 2 (pn + 1) 0).2) + 1)) :: aI cI tco 60 gco :: X) H := pm_P hP 2 [0, 1] rfl
    have hD : va_D A (oX3 tx (nI tn) (atX 60 gco (nI pn)) ((numF gco tn 2 (pn + 1) 0).1) tr ts tu tco te twp (nI (((numF gco tn 2 (pn + 1) 0).2) + 1)) :: aI cI tco 60 gco :: X) := pm_D hD 2 [0, 1] rfl rfl rfl
    refine lv_pop hx hb dX3_readOrder_29 rfl ?_
    refine lv_aload_n hx hb dX3_readOrder_30 rfl (lv_at hl 0 rfl) ?_
    refine lv_aload_n hx hb dX3_readOrder_31 rfl (lv_at hl 0 rfl) ?_
    refine cV_i CF hK hN hA hS (cut_of 2 [0, 1] hP hD rfl rfl rfl) (m_nextNumber l D cI cZ cW cJ A (X) tx tco tn (atX 60 gco (nI pn)) ((numF gco tn 2 (pn + 1) 0).1) tr ts tu te twp gco (((numF gco tn 2 (pn + 1) 0).2) + 1) htn (by have := numF_le2 gco tn 2 (pn + 1) 0; omega)) (cwV 0 hts gX3_readOrder_X3_nextNumber rfl rfl rfl (by decide +kernel) ⟨Nat.le_of_ble_eq_true rfl, Nat.le_of_ble_eq_true rfl⟩) (As := []) (rest := [.ref tx]) (ci := 3) (q0 := 0) rfl rfl rfl hl.1 rfl (Nat.le_of_ble_eq_true rfl) dX3_readOrder_32 ⟨Nat.le_of_ble_eq_true rfl, Nat.le_of_ble_eq_true rfl⟩ (fun r_32 u_32 H locs hq hP hD hS => ?_)
    have hq_32 : r_32 = (numF gco tn 2 (((numF gco tn 2 (pn + 1) 0).2) + 1) 0).1 ∧ u_32 = (numF gco tn 2 (((numF gco tn 2 (pn + 1) 0).2) + 1) 0).2 := hq
    have hr_32 : r_32 = (numF gco tn 2 (((numF gco tn 2 (pn + 1) 0).2) + 1) 0).1 := hq_32.1
    subst hr_32
    have hP : va_P D vwCl (oX3 tx (nI tn) (atX 60 gco (nI pn)) ((numF gco tn 2 (pn + 1) 0).1) tr ts tu tco te twp (nI u_32) :: aI cI tco 60 gco :: X) H := pm_P hP 2 [0, 1] rfl
    have hD : va_D A (oX3 tx (nI tn) (atX 60 gco (nI pn)) ((numF gco tn 2 (pn + 1) 0).1) tr ts tu tco te twp (nI u_32) :: aI cI tco 60 gco :: X) := pm_D hD 2 [0, 1] rfl rfl rfl
    have e_32 := hq_32.2
    rw [e_32] at hP hD
    have hP : va_P D vwCl (oX3 tx (nI tn) (atX 60 gco (nI pn)) ((numF gco tn 2 (pn + 1) 0).1) tr ts tu tco te twp (nI (numF gco tn 2 ((numF gco tn 2 (pn + 1) 0).2 + 1) 0).2) :: aI cI tco 60 gco :: X) H := hP
    have hD : va_D A (oX3 tx (nI tn) (atX 60 gco (nI pn)) ((numF gco tn 2 (pn + 1) 0).1) tr ts tu tco te twp (nI (numF gco tn 2 ((numF gco tn 2 (pn + 1) 0).2 + 1) 0).2) :: aI cI tco 60 gco :: X) := hD
    refine va_put (D := D) (ci := 3) (v := .int ((numF gco tn 2 (((numF gco tn 2 (pn + 1) 0).2) + 1) 0).1)) (ty := .int) (C := RX3) (T := TX3) (N := 10) hx hb hts hiX3 tyX3 tyX3_ok nmX3 hown hK hP hD hS 0 rfl rfl 3 (by decide) (hts (.fieldLink RX3 67 "LedgeLeaps$OrderText" "row" "I") (List.mem_of_getElem? (i := 3) rfl)) (fun _ h9 => h9) rfl (by decide +kernel) rfl rfl (Nat.le_of_ble_eq_true rfl) dX3_readOrder_35 (fun H locs hP hD hS => ?_)
    have hP : va_P D vwCl (oX3 tx (nI tn) (atX 60 gco (nI pn)) ((numF gco tn 2 (pn + 1) 0).1) ((numF gco tn 2 (((numF gco tn 2 (pn + 1) 0).2) + 1) 0).1) ts tu tco te twp (nI (numF gco tn 2 ((numF gco tn 2 (pn + 1) 0).2 + 1) 0).2) :: aI cI tco 60 gco :: X) H := hP
    have hD : va_D A (oX3 tx (nI tn) (atX 60 gco (nI pn)) ((numF gco tn 2 (pn + 1) 0).1) ((numF gco tn 2 (((numF gco tn 2 (pn + 1) 0).2) + 1) 0).1) ts tu tco te twp (nI (numF gco tn 2 ((numF gco tn 2 (pn + 1) 0).2 + 1) 0).2) :: aI cI tco 60 gco :: X) := hD
    refine lv_goto (tgt := 80) hx hb dX3_readOrder_38 (by decide) ?_
    refine lv_aload_n hx hb dX3_readOrder_80 rfl (lv_at hl 0 rfl) ?_
    refine cV_i CF hK hN hA hS (cut_of 2 [0, 1] hP hD rfl rfl rfl) (m_nextCode l D cI cZ cW cJ A (X) tx tco (nI tn) (atX 60 gco (nI pn)) ((numF gco tn 2 (pn + 1) 0).1) ((numF gco tn 2 (((numF gco tn 2 (pn + 1) 0).2) + 1) 0).1) ts tu te twp gco ((numF gco tn 2 ((numF gco tn 2 (pn + 1) 0).2 + 1) 0).2)) (cwV 0 hts gX3_readOrder_X3_nextCode rfl rfl rfl (by decide +kernel) ⟨Nat.le_of_ble_eq_true rfl, Nat.le_of_ble_eq_true rfl⟩) (As := []) (rest := []) (ci := 3) (q0 := 0) rfl rfl rfl hl.1 rfl (Nat.le_of_ble_eq_true rfl) dX3_readOrder_81 ⟨Nat.le_of_ble_eq_true rfl, Nat.le_of_ble_eq_true rfl⟩ (fun r_81 _ H locs hq hP hD hS => ?_)
    have hq : r_81 = atX 60 gco (nI ((numF gco tn 2 ((numF gco tn 2 (pn + 1) 0).2 + 1) 0).2)) := hq
    subst hq
    have hP : va_P D vwCl (oX3 tx (nI tn) (atX 60 gco (nI pn)) ((numF gco tn 2 (pn + 1) 0).1) ((numF gco tn 2 (((numF gco tn 2 (pn + 1) 0).2) + 1) 0).1) ts tu tco te twp (nI (((numF gco tn 2 ((numF gco tn 2 (pn + 1) 0).2 + 1) 0).2) + 1)) :: aI cI tco 60 gco :: X) H := pm_P hP 2 [0, 1] rfl
    have hD : va_D A (oX3 tx (nI tn) (atX 60 gco (nI pn)) ((numF gco tn 2 (pn + 1) 0).1) ((numF gco tn 2 (((numF gco tn 2 (pn + 1) 0).2) + 1) 0).1) ts tu tco te twp (nI (((numF gco tn 2 ((numF gco tn 2 (pn + 1) 0).2 + 1) 0).2) + 1)) :: aI cI tco 60 gco :: X) := pm_D hD 2 [0, 1] rfl rfl rfl
    refine lv_pop hx hb dX3_readOrder_84 rfl ?_
    exact W.vret hx hb hr (fun t9 ht9 hW9 => ⟨⟨((atX 60 gco (nI pn)), ((numF gco tn 2 (pn + 1) 0).1), ((numF gco tn 2 (((numF gco tn 2 (pn + 1) 0).2) + 1) 0).1), ts, tu, (((numF gco tn 2 ((numF gco tn 2 (pn + 1) 0).2 + 1) 0).2) + 1)), rfl, by rw [rdF, if_pos c_14, c_14], by rw [ht9]; exact hP, hD⟩, hS.F ht9⟩) hS.2.2 dX3_readOrder_85
