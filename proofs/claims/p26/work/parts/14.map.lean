def isCellX (x y : Int32) : Bool := if x < 0 then false else if 20 ≤ x then false else if y < 0 then false else if 10 ≤ y then false else true
set_option maxHeartbeats 4000000 in
set_option maxRecDepth 100000 in
theorem m_isCell (l : Launch) (D : va_G) (cI cZ cW cJ : ClassId) (A : Nat → Prop) (X : va_W) (xa xb : Int32) : Met l yX8_isCell wsX8_isCell ({ frames := 0, cells := 0, slots := 0, locals := 0 }) (va_Pc [.int xa, .int xb] (wd D (tyL cI cZ cW cJ) A (X))) (va_Qi (fun (r : Int32) (u : Unit) => r = bI (isCellX xa xb)) (fun (u : Unit) t => wq D A (X) t) A) 0 0 A := by
  refine Met.ofW (cc := cX8_isCell) (maxL := 2) (ret := (some .boolean)) (by decide) rfl ?_
  intro p e s m args below meth c s₁ B hml hv
  obtain ⟨rfl, hsz9, hP, hK, hD, hN⟩ := hv
  have hx := B.exec
  have hb := B.bytes
  have hr := B.returns
  have hts := atoms_spec (ws := wsX8_isCell) B.pre
  have hown : s.vm.findClass RX8 = some m.cls := findClass_of_methodNamed B.named
  have hlocks := B.notSynchronized
  have CF : CallFix p m c cX8_isCell 2 s _ wsX8_isCell RX8 := ⟨hx, hb, hml, hown, hts⟩
  have hA : ∀ q : Nat, s.heap.size ≤ q → A q := hsz9
  have hS : va_S A s.heap s.heap [] := va_S.rf
  have hl := lv_entry ([.int xa, .int xb]) (n := 2) (Nat.le_of_ble_eq_true rfl)
  rw [lg_entry_eq]
  generalize (lg_sl ([.int xa, .int xb]) ++ List.replicate (2 - (lg_sl ([.int xa, .int xb])).length) Slot.unset).toArray = ls at hl ⊢
  have hl : lv_has ls 2 [(0, .int xa), (1, .int xb)] := hl
  show W p l e ({ frames := 0, cells := 0, slots := 0, locals := 0 } : Room) s m (([.int xa, .int xb] : List Value).toArray) below meth c s.heap [] 0 0 (MQ below (va_Qi (fun (r : Int32) (u : Unit) => r = bI (isCellX xa xb)) (fun (u : Unit) t => wq D A (X) t) A) (([.int xa, .int xb] : List Value).toArray) s 0 0 A) (F0 m 0 ls [])
  refine lv_iload_n hx hb dX8_isCell_0 rfl (lv_at hl 0 rfl) ?_
  refine lv_if_lt (tgt := 24) hx hb dX8_isCell_1 (by decide) (fun c_1 => ?_) (fun c_1 => ?_)
  · refine lv_iconst (v := 0) hx hb dX8_isCell_24 (by decide) ?_
    exact W.zret (v := 0) (ty := .boolean) hx hb hr (rfl) (fun t9 ht9 hW9 => ⟨⟨0, (), rfl, by simp [bI, isCellX, c_1], by rw [ht9]; exact hP, hD⟩, hS.F ht9⟩) hS.2.2 dX8_isCell_25
  · refine lv_iload_n hx hb dX8_isCell_4 rfl (lv_at hl 0 rfl) ?_
    refine lv_bipush (v := 20) hx hb dX8_isCell_5 (by decide) ?_
    refine lv_icmp_ge (tgt := 24) hx hb dX8_isCell_7 (by decide) (fun c_7 => ?_) (fun c_7 => ?_)
    · refine lv_iconst (v := 0) hx hb dX8_isCell_24 (by decide) ?_
      exact W.zret (v := 0) (ty := .boolean) hx hb hr (rfl) (fun t9 ht9 hW9 => ⟨⟨0, (), rfl, by simp [bI, isCellX, c_1, c_7], by rw [ht9]; exact hP, hD⟩, hS.F ht9⟩) hS.2.2 dX8_isCell_25
    · refine lv_iload_n hx hb dX8_isCell_10 rfl (lv_at hl 1 rfl) ?_
      refine lv_if_lt (tgt := 24) hx hb dX8_isCell_11 (by decide) (fun c_11 => ?_) (fun c_11 => ?_)
      · refine lv_iconst (v := 0) hx hb dX8_isCell_24 (by decide) ?_
        exact W.zret (v := 0) (ty := .boolean) hx hb hr (rfl) (fun t9 ht9 hW9 => ⟨⟨0, (), rfl, by simp [bI, isCellX, c_1, c_7, c_11], by rw [ht9]; exact hP, hD⟩, hS.F ht9⟩) hS.2.2 dX8_isCell_25
      · refine lv_iload_n hx hb dX8_isCell_14 rfl (lv_at hl 1 rfl) ?_
        refine lv_bipush (v := 10) hx hb dX8_isCell_15 (by decide) ?_
        refine lv_icmp_ge (tgt := 24) hx hb dX8_isCell_17 (by decide) (fun c_17 => ?_) (fun c_17 => ?_)
        · refine lv_iconst (v := 0) hx hb dX8_isCell_24 (by decide) ?_
          exact W.zret (v := 0) (ty := .boolean) hx hb hr (rfl) (fun t9 ht9 hW9 => ⟨⟨0, (), rfl, by simp [bI, isCellX, c_1, c_7, c_11, c_17], by rw [ht9]; exact hP, hD⟩, hS.F ht9⟩) hS.2.2 dX8_isCell_25
        · refine lv_iconst (v := 1) hx hb dX8_isCell_20 (by decide) ?_
          refine lv_goto (tgt := 25) hx hb dX8_isCell_21 (by decide) ?_
          exact W.zret (v := 1) (ty := .boolean) hx hb hr (rfl) (fun t9 ht9 hW9 => ⟨⟨1, (), rfl, by simp [bI, isCellX, c_1, c_7, c_11, c_17], by rw [ht9]; exact hP, hD⟩, hS.F ht9⟩) hS.2.2 dX8_isCell_25
def isSetX (x : Int32) : Bool := if x < 0 then false else if 3 ≤ x then false else true
set_option maxHeartbeats 4000000 in
set_option maxRecDepth 100000 in
theorem m_isSetting (l : Launch) (D : va_G) (cI cZ cW cJ : ClassId) (A : Nat → Prop) (X : va_W) (xa : Int32) : Met l yX8_isSetting wsX8_isSetting ({ frames := 0, cells := 0, slots := 0, locals := 0 }) (va_Pc [.int xa] (wd D (tyL cI cZ cW cJ) A (X))) (va_Qi (fun (r : Int32) (u : Unit) => r = bI (isSetX xa)) (fun (u : Unit) t => wq D A (X) t) A) 0 0 A := by
  refine Met.ofW (cc := cX8_isSetting) (maxL := 1) (ret := (some .boolean)) (by decide) rfl ?_
  intro p e s m args below meth c s₁ B hml hv
  obtain ⟨rfl, hsz9, hP, hK, hD, hN⟩ := hv
  have hx := B.exec
  have hb := B.bytes
  have hr := B.returns
  have hts := atoms_spec (ws := wsX8_isSetting) B.pre
  have hown : s.vm.findClass RX8 = some m.cls := findClass_of_methodNamed B.named
  have hlocks := B.notSynchronized
  have CF : CallFix p m c cX8_isSetting 1 s _ wsX8_isSetting RX8 := ⟨hx, hb, hml, hown, hts⟩
  have hA : ∀ q : Nat, s.heap.size ≤ q → A q := hsz9
  have hS : va_S A s.heap s.heap [] := va_S.rf
  have hl := lv_entry ([.int xa]) (n := 1) (Nat.le_of_ble_eq_true rfl)
  rw [lg_entry_eq]
  generalize (lg_sl ([.int xa]) ++ List.replicate (1 - (lg_sl ([.int xa])).length) Slot.unset).toArray = ls at hl ⊢
  have hl : lv_has ls 1 [(0, .int xa)] := hl
  show W p l e ({ frames := 0, cells := 0, slots := 0, locals := 0 } : Room) s m (([.int xa] : List Value).toArray) below meth c s.heap [] 0 0 (MQ below (va_Qi (fun (r : Int32) (u : Unit) => r = bI (isSetX xa)) (fun (u : Unit) t => wq D A (X) t) A) (([.int xa] : List Value).toArray) s 0 0 A) (F0 m 0 ls [])
  refine lv_iload_n hx hb dX8_isSetting_0 rfl (lv_at hl 0 rfl) ?_
  refine lv_if_lt (tgt := 13) hx hb dX8_isSetting_1 (by decide) (fun c_1 => ?_) (fun c_1 => ?_)
  · refine lv_iconst (v := 0) hx hb dX8_isSetting_13 (by decide) ?_
    exact W.zret (v := 0) (ty := .boolean) hx hb hr (rfl) (fun t9 ht9 hW9 => ⟨⟨0, (), rfl, by simp [bI, isSetX, c_1], by rw [ht9]; exact hP, hD⟩, hS.F ht9⟩) hS.2.2 dX8_isSetting_14
  · refine lv_iload_n hx hb dX8_isSetting_4 rfl (lv_at hl 0 rfl) ?_
    refine lv_iconst (v := 3) hx hb dX8_isSetting_5 (by decide) ?_
    refine lv_icmp_ge (tgt := 13) hx hb dX8_isSetting_6 (by decide) (fun c_6 => ?_) (fun c_6 => ?_)
    · refine lv_iconst (v := 0) hx hb dX8_isSetting_13 (by decide) ?_
      exact W.zret (v := 0) (ty := .boolean) hx hb hr (rfl) (fun t9 ht9 hW9 => ⟨⟨0, (), rfl, by simp [bI, isSetX, c_1, c_6], by rw [ht9]; exact hP, hD⟩, hS.F ht9⟩) hS.2.2 dX8_isSetting_14
    · refine lv_iconst (v := 1) hx hb dX8_isSetting_9 (by decide) ?_
      refine lv_goto (tgt := 14) hx hb dX8_isSetting_10 (by decide) ?_
      exact W.zret (v := 1) (ty := .boolean) hx hb hr (rfl) (fun t9 ht9 hW9 => ⟨⟨1, (), rfl, by simp [bI, isSetX, c_1, c_6], by rw [ht9]; exact hP, hD⟩, hS.F ht9⟩) hS.2.2 dX8_isSetting_14
def isSideX (x : Int32) : Bool := if x = 1 then true else if x = -1 then true else false
set_option maxHeartbeats 4000000 in
set_option maxRecDepth 100000 in
theorem m_isSide (l : Launch) (D : va_G) (cI cZ cW cJ : ClassId) (A : Nat → Prop) (X : va_W) (xa : Int32) : Met l yX8_isSide wsX8_isSide ({ frames := 0, cells := 0, slots := 0, locals := 0 }) (va_Pc [.int xa] (wd D (tyL cI cZ cW cJ) A (X))) (va_Qi (fun (r : Int32) (u : Unit) => r = bI (isSideX xa)) (fun (u : Unit) t => wq D A (X) t) A) 0 0 A := by
  refine Met.ofW (cc := cX8_isSide) (maxL := 1) (ret := (some .boolean)) (by decide) rfl ?_
  intro p e s m args below meth c s₁ B hml hv
  obtain ⟨rfl, hsz9, hP, hK, hD, hN⟩ := hv
  have hx := B.exec
  have hb := B.bytes
  have hr := B.returns
  have hts := atoms_spec (ws := wsX8_isSide) B.pre
  have hown : s.vm.findClass RX8 = some m.cls := findClass_of_methodNamed B.named
  have hlocks := B.notSynchronized
  have CF : CallFix p m c cX8_isSide 1 s _ wsX8_isSide RX8 := ⟨hx, hb, hml, hown, hts⟩
  have hA : ∀ q : Nat, s.heap.size ≤ q → A q := hsz9
  have hS : va_S A s.heap s.heap [] := va_S.rf
  have hl := lv_entry ([.int xa]) (n := 1) (Nat.le_of_ble_eq_true rfl)
  rw [lg_entry_eq]
  generalize (lg_sl ([.int xa]) ++ List.replicate (1 - (lg_sl ([.int xa])).length) Slot.unset).toArray = ls at hl ⊢
  have hl : lv_has ls 1 [(0, .int xa)] := hl
  show W p l e ({ frames := 0, cells := 0, slots := 0, locals := 0 } : Room) s m (([.int xa] : List Value).toArray) below meth c s.heap [] 0 0 (MQ below (va_Qi (fun (r : Int32) (u : Unit) => r = bI (isSideX xa)) (fun (u : Unit) t => wq D A (X) t) A) (([.int xa] : List Value).toArray) s 0 0 A) (F0 m 0 ls [])
  refine lv_iload_n hx hb dX8_isSide_0 rfl (lv_at hl 0 rfl) ?_
  refine lv_iconst (v := 1) hx hb dX8_isSide_1 (by decide) ?_
  refine lv_icmp_eq (tgt := 10) hx hb dX8_isSide_2 (by decide) (fun c_2 => ?_) (fun c_2 => ?_)
  · refine lv_iconst (v := 1) hx hb dX8_isSide_10 (by decide) ?_
    refine lv_goto (tgt := 15) hx hb dX8_isSide_11 (by decide) ?_
    exact W.zret (v := 1) (ty := .boolean) hx hb hr (rfl) (fun t9 ht9 hW9 => ⟨⟨1, (), rfl, by simp [bI, isSideX, c_2], by rw [ht9]; exact hP, hD⟩, hS.F ht9⟩) hS.2.2 dX8_isSide_15
  · refine lv_iload_n hx hb dX8_isSide_5 rfl (lv_at hl 0 rfl) ?_
    refine lv_iconst (v := (-1)) hx hb dX8_isSide_6 (by decide) ?_
    refine lv_icmp_ne (tgt := 14) hx hb dX8_isSide_7 (by decide) (fun c_7 => ?_) (fun c_7 => ?_)
    · refine lv_iconst (v := 0) hx hb dX8_isSide_14 (by decide) ?_
      exact W.zret (v := 0) (ty := .boolean) hx hb hr (rfl) (fun t9 ht9 hW9 => ⟨⟨0, (), rfl, by simp [bI, isSideX, c_2, c_7], by rw [ht9]; exact hP, hD⟩, hS.F ht9⟩) hS.2.2 dX8_isSide_15
    · refine lv_iconst (v := 1) hx hb dX8_isSide_10 (by decide) ?_
      refine lv_goto (tgt := 15) hx hb dX8_isSide_11 (by decide) ?_
      exact W.zret (v := 1) (ty := .boolean) hx hb hr (rfl) (fun t9 ht9 hW9 => ⟨⟨1, (), rfl, by simp [bI, isSideX, c_2, c_7], by rw [ht9]; exact hP, hD⟩, hS.F ht9⟩) hS.2.2 dX8_isSide_15
def isRunX (x : Int32) : Bool := if x < 0 then false else if 3 < x then false else true
set_option maxHeartbeats 4000000 in
set_option maxRecDepth 100000 in
theorem m_isRunUp (l : Launch) (D : va_G) (cI cZ cW cJ : ClassId) (A : Nat → Prop) (X : va_W) (xa : Int32) : Met l yX8_isRunUp wsX8_isRunUp ({ frames := 0, cells := 0, slots := 0, locals := 0 }) (va_Pc [.int xa] (wd D (tyL cI cZ cW cJ) A (X))) (va_Qi (fun (r : Int32) (u : Unit) => r = bI (isRunX xa)) (fun (u : Unit) t => wq D A (X) t) A) 0 0 A := by
  refine Met.ofW (cc := cX8_isRunUp) (maxL := 1) (ret := (some .boolean)) (by decide) rfl ?_
  intro p e s m args below meth c s₁ B hml hv
  obtain ⟨rfl, hsz9, hP, hK, hD, hN⟩ := hv
  have hx := B.exec
  have hb := B.bytes
  have hr := B.returns
  have hts := atoms_spec (ws := wsX8_isRunUp) B.pre
  have hown : s.vm.findClass RX8 = some m.cls := findClass_of_methodNamed B.named
  have hlocks := B.notSynchronized
  have CF : CallFix p m c cX8_isRunUp 1 s _ wsX8_isRunUp RX8 := ⟨hx, hb, hml, hown, hts⟩
  have hA : ∀ q : Nat, s.heap.size ≤ q → A q := hsz9
  have hS : va_S A s.heap s.heap [] := va_S.rf
  have hl := lv_entry ([.int xa]) (n := 1) (Nat.le_of_ble_eq_true rfl)
  rw [lg_entry_eq]
  generalize (lg_sl ([.int xa]) ++ List.replicate (1 - (lg_sl ([.int xa])).length) Slot.unset).toArray = ls at hl ⊢
  have hl : lv_has ls 1 [(0, .int xa)] := hl
  show W p l e ({ frames := 0, cells := 0, slots := 0, locals := 0 } : Room) s m (([.int xa] : List Value).toArray) below meth c s.heap [] 0 0 (MQ below (va_Qi (fun (r : Int32) (u : Unit) => r = bI (isRunX xa)) (fun (u : Unit) t => wq D A (X) t) A) (([.int xa] : List Value).toArray) s 0 0 A) (F0 m 0 ls [])
  refine lv_iload_n hx hb dX8_isRunUp_0 rfl (lv_at hl 0 rfl) ?_
  refine lv_if_lt (tgt := 13) hx hb dX8_isRunUp_1 (by decide) (fun c_1 => ?_) (fun c_1 => ?_)
  · refine lv_iconst (v := 0) hx hb dX8_isRunUp_13 (by decide) ?_
    exact W.zret (v := 0) (ty := .boolean) hx hb hr (rfl) (fun t9 ht9 hW9 => ⟨⟨0, (), rfl, by simp [bI, isRunX, c_1], by rw [ht9]; exact hP, hD⟩, hS.F ht9⟩) hS.2.2 dX8_isRunUp_14
  · refine lv_iload_n hx hb dX8_isRunUp_4 rfl (lv_at hl 0 rfl) ?_
    refine lv_iconst (v := 3) hx hb dX8_isRunUp_5 (by decide) ?_
    refine lv_icmp_gt (tgt := 13) hx hb dX8_isRunUp_6 (by decide) (fun c_6 => ?_) (fun c_6 => ?_)
    · refine lv_iconst (v := 0) hx hb dX8_isRunUp_13 (by decide) ?_
      exact W.zret (v := 0) (ty := .boolean) hx hb hr (rfl) (fun t9 ht9 hW9 => ⟨⟨0, (), rfl, by simp [bI, isRunX, c_1, c_6], by rw [ht9]; exact hP, hD⟩, hS.F ht9⟩) hS.2.2 dX8_isRunUp_14
    · refine lv_iconst (v := 1) hx hb dX8_isRunUp_9 (by decide) ?_
      refine lv_goto (tgt := 14) hx hb dX8_isRunUp_10 (by decide) ?_
      exact W.zret (v := 1) (ty := .boolean) hx hb hr (rfl) (fun t9 ht9 hW9 => ⟨⟨1, (), rfl, by simp [bI, isRunX, c_1, c_6], by rw [ht9]; exact hP, hD⟩, hS.F ht9⟩) hS.2.2 dX8_isRunUp_14
def isSlotX (x : Int32) : Bool := if x < 0 then false else if 2 ≤ x then false else true
def fillX (v : Int32) (f : Nat → Int32) (i : Nat) : Nat → Int32 := fun k => if k < i then v else f k
theorem fillX_0 (v : Int32) (f : Nat → Int32) : fillX v f 0 = f := by funext k; simp [fillX]
theorem fillX_s (v : Int32) (f : Nat → Int32) (i : Nat) : upd (fillX v f i) i v = fillX v f (i + 1) := by
  funext k
  unfold fillX upd
  by_cases h : k = i
  · rw [if_pos h, if_pos (by omega)]
  · rw [if_neg h]
    show (if k < i then v else f k) = if k < i + 1 then v else f k
    by_cases q : k < i
    · rw [if_pos q, if_pos (by omega)]
    · rw [if_neg q, if_neg (by omega)]
set_option maxHeartbeats 4000000 in
set_option maxRecDepth 100000 in
theorem m_fill (l : Launch) (D : va_G) (cI cZ cW cJ : ClassId) (A : Nat → Prop) (X : va_W) (na nn : Nat) (nf : Nat → Int32) (iv : Int32) (hnn : nn < 2 ^ 31) : Met l yJ7_fill_53178 wsJ7_fill_53178 ({ frames := 0, cells := 0, slots := 0, locals := 0 }) (va_Pc [.ref na, .int iv] (wd D (tyL cI cZ cW cJ) A (aI cI na nn nf :: X))) (va_Qv (fun (u : Unit) => True) (fun (u : Unit) t => wq D A (aI cI na nn (fillX iv nf nn) :: X) t) A) 0 0 A := by
  refine Met.ofW (cc := cJ7_fill_53178) (maxL := 4) (ret := none) (by decide) rfl ?_
  intro p e s m args below meth c s₁ B hml hv
  obtain ⟨rfl, hsz9, hP, hK, hD, hN⟩ := hv
  have hx := B.exec
  have hb := B.bytes
  have hr := B.returns
  have hts := atoms_spec (ws := wsJ7_fill_53178) B.pre
  have hown : s.vm.findClass RJ7 = some m.cls := findClass_of_methodNamed B.named
  have hlocks := B.notSynchronized
  have CF : CallFix p m c cJ7_fill_53178 4 s _ wsJ7_fill_53178 RJ7 := ⟨hx, hb, hml, hown, hts⟩
  have hA : ∀ q : Nat, s.heap.size ≤ q → A q := hsz9
  have hS : va_S A s.heap s.heap [] := va_S.rf
  have hl := lv_entry ([.ref na, .int iv]) (n := 4) (Nat.le_of_ble_eq_true rfl)
  rw [lg_entry_eq]
  generalize (lg_sl ([.ref na, .int iv]) ++ List.replicate (4 - (lg_sl ([.ref na, .int iv])).length) Slot.unset).toArray = ls at hl ⊢
  have hl : lv_has ls 4 [(0, .ref na), (1, .int iv)] := hl
  show W p l e ({ frames := 0, cells := 0, slots := 0, locals := 0 } : Room) s m (([.ref na, .int iv] : List Value).toArray) below meth c s.heap [] 0 0 (MQ below (va_Qv (fun (u : Unit) => True) (fun (u : Unit) t => wq D A (aI cI na nn (fillX iv nf nn) :: X) t) A) (([.ref na, .int iv] : List Value).toArray) s 0 0 A) (F0 m 0 ls [])
  refine lv_iconst (v := 0) hx hb dJ7_fill_53178_0 (by decide) ?_
  refine lv_istore_n (lv' := [(2, .int 0), (0, .ref na), (1, .int iv)]) hx hb dJ7_fill_53178_1 rfl hl (by decide) rfl (fun ls hl => ?_)
  refine lv_aload_n hx hb dJ7_fill_53178_2 rfl (lv_at hl 1 rfl) ?_
  refine va_alen (v := nI (nn)) hx hb hK hP 0 0 rfl rfl rfl dJ7_fill_53178_3 ?_
  refine lv_istore_n (lv' := [(3, .int (nI (nn))), (2, .int 0), (0, .ref na), (1, .int iv)]) hx hb dJ7_fill_53178_4 rfl hl (by decide) rfl (fun ls hl => ?_)
  have loop_5 : ∀ (nfu : Nat) (i : Nat) (hn_5 : nn - i < nfu) (hi : i ≤ nn) (H : Heap) (locs : List Loc) (hP : va_P D vwCl (aI cI na nn (fillX iv nf i) :: X) H) (hD : va_D A (aI cI na nn (fillX iv nf i) :: X)) (hS : va_S A s.heap H locs) (ls : Array Slot) (hl : lv_has ls 4 [(2, .int (nI i)), (3, .int (nI nn)), (0, .ref na), (1, .int iv)]), W p l e ({ frames := 0, cells := 0, slots := 0, locals := 0 } : Room) s m (([.ref na, .int iv] : List Value).toArray) below meth c H locs 0 0 (MQ below (va_Qv (fun (u : Unit) => True) (fun (u : Unit) t => wq D A (aI cI na nn (fillX iv nf nn) :: X) t) A) (([.ref na, .int iv] : List Value).toArray) s 0 0 A) (F0 m 5 ls []) := by
    intro nfu
    induction nfu with
    | zero => intro i hn_5; exact absurd hn_5 (Nat.not_lt_zero _)
    | succ nfu ih_5 =>
      intro i hn_5 hi H locs hP hD hS ls hl
      refine lv_iload_n hx hb dJ7_fill_53178_5 rfl (lv_at hl 0 rfl) ?_
      refine lv_iload_n hx hb dJ7_fill_53178_6 rfl (lv_at hl 1 rfl) ?_
      refine lv_icmp_ge (tgt := 20) hx hb dJ7_fill_53178_7 (by decide) (fun c_7 => ?_) (fun c_7 => ?_)
      · obtain rfl : i = nn := Nat.le_antisymm hi (le_of_ge hnn (by omega) c_7)
        exact W.vret hx hb hr (fun t9 ht9 hW9 => ⟨⟨(), rfl, trivial, by rw [ht9]; exact hP, hD⟩, hS.F ht9⟩) hS.2.2 dJ7_fill_53178_20
      · refine lv_aload_n hx hb dJ7_fill_53178_10 rfl (lv_at hl 2 rfl) ?_
        refine lv_iload_n hx hb dJ7_fill_53178_11 rfl (lv_at hl 0 rfl) ?_
        refine lv_iload_n hx hb dJ7_fill_53178_12 rfl (lv_at hl 3 rfl) ?_
        refine va_iast hx hb hK hP hD hS 0 0 rfl rfl (vp_ix (rfl) (lt_of_nge hnn (by omega) c_7) (hnn)) dJ7_fill_53178_13 (fun H locs hP hD hS => ?_)
        rw [cl_ix (rfl) (lt_of_nge hnn (by omega) c_7) (hnn)] at hP hD
        have hP : va_P D vwCl (aI cI na nn (upd (fillX iv nf i) i iv) :: X) H := hP
        have hD : va_D A (aI cI na nn (upd (fillX iv nf i) i iv) :: X) := hD
        refine lv_iinc (v := (nI (i + 1))) (lv' := [(2, .int (nI (i + 1))), (3, .int (nI nn)), (0, .ref na), (1, .int iv)]) hx hb dJ7_fill_53178_14 hl (k := 0) rfl (nI_1 i) (by decide) rfl (fun ls hl => ?_)
        refine lv_goto (tgt := 5) hx hb dJ7_fill_53178_17 (by decide) ?_
        rw [fillX_s] at hP hD
        exact ih_5 (i + 1) (by have h := lt_of_nge hnn (by omega) c_7; omega) (lt_of_nge hnn (by omega) c_7) _ _ (hP) (hD) hS _ (lv_sub hl [0, 1, 2, 3] rfl)
  rw [← fillX_0 iv nf] at hP hD
  exact loop_5 _ 0 (Nat.lt_succ_self _) (Nat.zero_le _) _ _ hP hD hS _ (lv_sub hl [1, 0, 2, 3] rfl)
def hasX (sz : Nat) (x : Int32) : Bool := if x < 0 then false else if nI sz ≤ x then false else true
def laX (lo : Nat → Int32) (x y : Int32) : Int32 := if isCellX x y = true then atX 200 lo (y * 20 + x) else -1
set_option maxHeartbeats 4000000 in
set_option maxRecDepth 100000 in
theorem m_has (l : Launch) (D : va_G) (cI cZ cW cJ : ClassId) (A : Nat → Prop) (X : va_W) (mm mro mfi mle mlo : Nat) (sz : Nat) (xl : Int32) : Met l yX2_has wsX2_has ({ frames := 0, cells := 0, slots := 0, locals := 0 }) (va_Pc [.ref mm, .int xl] (wd D (tyL cI cZ cW cJ) A (oX2 mm mro mfi mle (nI sz) mlo :: X))) (va_Qi (fun (r : Int32) (u : Unit) => r = bI (hasX sz xl)) (fun (u : Unit) t => wq D A (oX2 mm mro mfi mle (nI sz) mlo :: X) t) A) 0 0 A := by
  refine Met.ofW (cc := cX2_has) (maxL := 2) (ret := (some .boolean)) (by decide) rfl ?_
  intro p e s m args below meth c s₁ B hml hv
  obtain ⟨rfl, hsz9, hP, hK, hD, hN⟩ := hv
  have hx := B.exec
  have hb := B.bytes
  have hr := B.returns
  have hts := atoms_spec (ws := wsX2_has) B.pre
  have hown : s.vm.findClass RX2 = some m.cls := findClass_of_methodNamed B.named
  have hlocks := B.notSynchronized
  have CF : CallFix p m c cX2_has 2 s _ wsX2_has RX2 := ⟨hx, hb, hml, hown, hts⟩
  have hA : ∀ q : Nat, s.heap.size ≤ q → A q := hsz9
  have hS : va_S A s.heap s.heap [] := va_S.rf
  have hiX2 : ∀ w ∈ u_ws RX2 TX2 5, w ∈ wsX2_has := fun _ h => List.mem_cons_of_mem _ (List.mem_append_right _ (h))
  have hl := lv_entry ([.ref mm, .int xl]) (n := 2) (Nat.le_of_ble_eq_true rfl)
  rw [lg_entry_eq]
  generalize (lg_sl ([.ref mm, .int xl]) ++ List.replicate (2 - (lg_sl ([.ref mm, .int xl])).length) Slot.unset).toArray = ls at hl ⊢
  have hl : lv_has ls 2 [(0, .ref mm), (1, .int xl)] := hl
  show W p l e ({ frames := 0, cells := 0, slots := 0, locals := 0 } : Room) s m (([.ref mm, .int xl] : List Value).toArray) below meth c s.heap [] 0 0 (MQ below (va_Qi (fun (r : Int32) (u : Unit) => r = bI (hasX sz xl)) (fun (u : Unit) t => wq D A (oX2 mm mro mfi mle (nI sz) mlo :: X) t) A) (([.ref mm, .int xl] : List Value).toArray) s 0 0 A) (F0 m 0 ls [])
  refine lv_iload_n hx hb dX2_has_0 rfl (lv_at hl 1 rfl) ?_
  refine lv_if_lt (tgt := 16) hx hb dX2_has_1 (by decide) (fun c_1 => ?_) (fun c_1 => ?_)
  · refine lv_iconst (v := 0) hx hb dX2_has_16 (by decide) ?_
    exact W.zret (v := 0) (ty := .boolean) hx hb hr (rfl) (fun t9 ht9 hW9 => ⟨⟨0, (), rfl, by simp [bI, hasX, c_1], by rw [ht9]; exact hP, hD⟩, hS.F ht9⟩) hS.2.2 dX2_has_17
  · refine lv_iload_n hx hb dX2_has_4 rfl (lv_at hl 1 rfl) ?_
    refine lv_aload_n hx hb dX2_has_5 rfl (lv_at hl 0 rfl) ?_
    refine va_get (D := D) (ci := 2) (v := .int (nI sz)) (C := RX2) (T := TX2) (N := 5) hx hb hts hiX2 hown hK hP 0 rfl rfl 3 (by decide) (hts (.fieldLink RX2 24 "LedgeLeaps$LedgeMap" "size" "I") (List.mem_of_getElem? (i := 1) rfl)) (fun _ h9 => h9) rfl dX2_has_6 ?_
    refine lv_icmp_ge (tgt := 16) hx hb dX2_has_9 (by decide) (fun c_9 => ?_) (fun c_9 => ?_)
    · refine lv_iconst (v := 0) hx hb dX2_has_16 (by decide) ?_
      exact W.zret (v := 0) (ty := .boolean) hx hb hr (rfl) (fun t9 ht9 hW9 => ⟨⟨0, (), rfl, by simp [bI, hasX, c_1, c_9], by rw [ht9]; exact hP, hD⟩, hS.F ht9⟩) hS.2.2 dX2_has_17
    · refine lv_iconst (v := 1) hx hb dX2_has_12 (by decide) ?_
      refine lv_goto (tgt := 17) hx hb dX2_has_13 (by decide) ?_
      exact W.zret (v := 1) (ty := .boolean) hx hb hr (rfl) (fun t9 ht9 hW9 => ⟨⟨1, (), rfl, by simp [bI, hasX, c_1, c_9], by rw [ht9]; exact hP, hD⟩, hS.F ht9⟩) hS.2.2 dX2_has_17
set_option maxHeartbeats 4000000 in
set_option maxRecDepth 100000 in
theorem m_ledgeAt (l : Launch) (D : va_G) (cI cZ cW cJ : ClassId) (A : Nat → Prop) (X : va_W) (mm mro mfi mle mlo : Nat) (glo : Nat → Int32) (sz : Nat) (xc xr : Int32) : Met l yX2_ledgeAt wsX2_ledgeAt ({ frames := 1, cells := 0, slots := 0, locals := 21 }) (va_Pc [.ref mm, .int xc, .int xr] (wd D (tyL cI cZ cW cJ) A (oX2 mm mro mfi mle (nI sz) mlo :: aI cI mlo 200 glo :: X))) (va_Qi (fun (r : Int32) (u : Unit) => r = laX glo xc xr) (fun (u : Unit) t => wq D A (oX2 mm mro mfi mle (nI sz) mlo :: aI cI mlo 200 glo :: X) t) A) 0 0 A := by
  refine Met.ofW (cc := cX2_ledgeAt) (maxL := 3) (ret := (some .int)) (by decide) rfl ?_
  intro p e s m args below meth c s₁ B hml hv
  obtain ⟨rfl, hsz9, hP, hK, hD, hN⟩ := hv
  have hx := B.exec
  have hb := B.bytes
  have hr := B.returns
  have hts := atoms_spec (ws := wsX2_ledgeAt) B.pre
  have hown : s.vm.findClass RX2 = some m.cls := findClass_of_methodNamed B.named
  have hlocks := B.notSynchronized
  have CF : CallFix p m c cX2_ledgeAt 3 s _ wsX2_ledgeAt RX2 := ⟨hx, hb, hml, hown, hts⟩
  have hA : ∀ q : Nat, s.heap.size ≤ q → A q := hsz9
  have hS : va_S A s.heap s.heap [] := va_S.rf
  have hiX2 : ∀ w ∈ u_ws RX2 TX2 5, w ∈ wsX2_ledgeAt := fun _ h => List.mem_cons_of_mem _ (List.mem_append_right _ (h))
  have hl := lv_entry ([.ref mm, .int xc, .int xr]) (n := 3) (Nat.le_of_ble_eq_true rfl)
  rw [lg_entry_eq]
  generalize (lg_sl ([.ref mm, .int xc, .int xr]) ++ List.replicate (3 - (lg_sl ([.ref mm, .int xc, .int xr])).length) Slot.unset).toArray = ls at hl ⊢
  have hl : lv_has ls 3 [(0, .ref mm), (1, .int xc), (2, .int xr)] := hl
  show W p l e ({ frames := 1, cells := 0, slots := 0, locals := 21 } : Room) s m (([.ref mm, .int xc, .int xr] : List Value).toArray) below meth c s.heap [] 0 0 (MQ below (va_Qi (fun (r : Int32) (u : Unit) => r = laX glo xc xr) (fun (u : Unit) t => wq D A (oX2 mm mro mfi mle (nI sz) mlo :: aI cI mlo 200 glo :: X) t) A) (([.ref mm, .int xc, .int xr] : List Value).toArray) s 0 0 A) (F0 m 0 ls [])
  refine lv_iload_n hx hb dX2_ledgeAt_0 rfl (lv_at hl 1 rfl) ?_
  refine lv_iload_n hx hb dX2_ledgeAt_1 rfl (lv_at hl 2 rfl) ?_
  refine cSN_i CF hK hN hA hS (cut_of 2 [0, 1] hP hD rfl rfl rfl) (m_isCell l D cI cZ cW cJ A (oX2 mm mro mfi mle (nI sz) mlo :: aI cI mlo 200 glo :: X) xc xr) ⟨va_cnB 2 hts gX2_ledgeAt_X8_isCell_n46 rfl rfl rfl (hN (RX2, 46, yX8_isCell) (List.mem_of_getElem? (i := 10) rfl)) (hts (.initialized RX8) (List.mem_of_getElem? (i := 3) rfl)) (by decide +kernel) ⟨Nat.le_of_ble_eq_true rfl, Nat.le_of_ble_eq_true rfl⟩, (hts (.static yX8_isCell) (List.mem_of_getElem? (i := 2) rfl)), trivial⟩ (As := [.int xc, .int xr]) (rest := []) rfl hl.1 rfl (Nat.le_of_ble_eq_true rfl) dX2_ledgeAt_2 ⟨Nat.le_of_ble_eq_true rfl, Nat.le_of_ble_eq_true rfl⟩ (fun r_2 _ H locs hq hP hD hS => ?_)
  have hq : r_2 = bI (isCellX xc xr) := hq
  subst hq
  have hP : va_P D vwCl (oX2 mm mro mfi mle (nI sz) mlo :: aI cI mlo 200 glo :: X) H := pm_P hP 2 [0, 1] rfl
  have hD : va_D A (oX2 mm mro mfi mle (nI sz) mlo :: aI cI mlo 200 glo :: X) := pm_D hD 2 [0, 1] rfl rfl rfl
  refine lv_if_eq (tgt := 24) hx hb dX2_ledgeAt_5 (by decide) (fun c_5 => ?_) (fun c_5 => ?_)
  · refine lv_iconst (v := (-1)) hx hb dX2_ledgeAt_24 (by decide) ?_
    exact W.iret (v := (-1)) hx hb hr (fun t9 ht9 hW9 => ⟨⟨(-1), (), rfl, by rw [laX, if_neg (by simp [bf_c c_5])], by rw [ht9]; exact hP, hD⟩, hS.F ht9⟩) hS.2.2 dX2_ledgeAt_25
  · refine lv_aload_n hx hb dX2_ledgeAt_8 rfl (lv_at hl 0 rfl) ?_
    refine va_get (D := D) (ci := 2) (v := .ref mlo) (C := RX2) (T := TX2) (N := 5) hx hb hts hiX2 hown hK hP 0 rfl rfl 4 (by decide) (hts (.fieldLink RX2 21 "LedgeLeaps$LedgeMap" "ledgesOfCells" "[I") (List.mem_of_getElem? (i := 1) rfl)) (fun _ h9 => h9) rfl dX2_ledgeAt_9 ?_
    refine lv_iload_n hx hb dX2_ledgeAt_12 rfl (lv_at hl 2 rfl) ?_
    refine lv_bipush (v := 20) hx hb dX2_ledgeAt_13 (by decide) ?_
    refine lv_imul hx hb dX2_ledgeAt_15 ?_
    refine lv_iload_n hx hb dX2_ledgeAt_16 rfl (lv_at hl 1 rfl) ?_
    refine lv_iadd hx hb dX2_ledgeAt_17 ?_
    refine cSN_i CF hK hN hA hS (cut_of 2 [1, 0] hP hD rfl rfl rfl) (m_at l D cI cZ cW cJ A (oX2 mm mro mfi mle (nI sz) mlo :: X) mlo 200 glo ((xr * 20) + xc) (by decide)) ⟨va_cnB 2 hts gX2_ledgeAt_X8_at_n42 rfl rfl rfl (hN (RX2, 42, yX8_at) (List.mem_of_getElem? (i := 9) rfl)) (hts (.initialized RX8) (List.mem_of_getElem? (i := 3) rfl)) (by decide +kernel) ⟨Nat.le_of_ble_eq_true rfl, Nat.le_of_ble_eq_true rfl⟩, (hts (.static yX8_at) (List.mem_of_getElem? (i := 5) rfl)), trivial⟩ (As := [.ref mlo, .int ((xr * 20) + xc)]) (rest := []) rfl hl.1 rfl (Nat.le_of_ble_eq_true rfl) dX2_ledgeAt_18 ⟨Nat.le_of_ble_eq_true rfl, Nat.le_of_ble_eq_true rfl⟩ (fun r_18 _ H locs hq hP hD hS => ?_)
    have hq : r_18 = atX 200 glo ((xr * 20) + xc) := hq
    subst hq
    have hP : va_P D vwCl (oX2 mm mro mfi mle (nI sz) mlo :: aI cI mlo 200 glo :: X) H := pm_P hP 2 [1, 0] rfl
    have hD : va_D A (oX2 mm mro mfi mle (nI sz) mlo :: aI cI mlo 200 glo :: X) := pm_D hD 2 [1, 0] rfl rfl rfl
    refine lv_goto (tgt := 25) hx hb dX2_ledgeAt_21 (by decide) ?_
    exact W.iret (v := (atX 200 glo ((xr * 20) + xc))) hx hb hr (fun t9 ht9 hW9 => ⟨⟨(atX 200 glo ((xr * 20) + xc)), (), rfl, by rw [laX, if_pos (bt_c c_5)], by rw [ht9]; exact hP, hD⟩, hS.F ht9⟩) hS.2.2 dX2_ledgeAt_25
set_option maxHeartbeats 4000000 in
set_option maxRecDepth 100000 in
theorem m_addCell (l : Launch) (D : va_G) (cI cZ cW cJ : ClassId) (A : Nat → Prop) (X : va_W) (mm mro mfi mle mlo : Nat) (gro gfi gle glo : Nat → Int32) (sz : Nat) (ac ar : Nat) (ag : Bool) (hac : ac < 20) (har : ar < 10) (hsz : sz ≤ 100) (hg0 : ag = false → sz < 100) (hg1 : ag = true → 1 ≤ sz) : Met l yX2_addCell wsX2_addCell ({ frames := 1, cells := 0, slots := 0, locals := 22 }) (va_Pc [.ref mm, .int (nI ac), .int (nI ar), .int (bI ag)] (wd D (tyL cI cZ cW cJ) A (oX2 mm mro mfi mle (nI sz) mlo :: aI cI mro 100 gro :: aI cI mfi 100 gfi :: aI cI mle 100 gle :: aI cI mlo 200 glo :: X))) (va_Qv (fun (u : (Nat → Int32) × (Nat → Int32) × (Nat → Int32) × Nat × Nat) => (ag = true → u.1 = gro ∧ u.2.1 = gfi ∧ u.2.2.1 = upd gle (sz - 1) (gle (sz - 1) + 1) ∧ u.2.2.2.1 = sz ∧ u.2.2.2.2 = sz - 1) ∧ (ag = false → u.1 = upd gro sz (nI ar) ∧ u.2.1 = upd gfi sz (nI ac) ∧ u.2.2.1 = upd gle sz 1 ∧ u.2.2.2.1 = sz + 1 ∧ u.2.2.2.2 = sz)) (fun (u : (Nat → Int32) × (Nat → Int32) × (Nat → Int32) × Nat × Nat) t => wq D A (oX2 mm mro mfi mle (nI u.2.2.2.1) mlo :: aI cI mro 100 u.1 :: aI cI mfi 100 u.2.1 :: aI cI mle 100 u.2.2.1 :: aI cI mlo 200 (upd glo (20 * ar + ac) (nI u.2.2.2.2)) :: X) t) A) 0 0 A := by
  refine Met.ofW (cc := cX2_addCell) (maxL := 5) (ret := none) (by decide) rfl ?_
  intro p e s m args below meth c s₁ B hml hv
  obtain ⟨rfl, hsz9, hP, hK, hD, hN⟩ := hv
  have hx := B.exec
  have hb := B.bytes
  have hr := B.returns
  have hts := atoms_spec (ws := wsX2_addCell) B.pre
  have hown : s.vm.findClass RX2 = some m.cls := findClass_of_methodNamed B.named
  have hlocks := B.notSynchronized
  have CF : CallFix p m c cX2_addCell 5 s _ wsX2_addCell RX2 := ⟨hx, hb, hml, hown, hts⟩
  have hA : ∀ q : Nat, s.heap.size ≤ q → A q := hsz9
  have hS : va_S A s.heap s.heap [] := va_S.rf
  have hiX2 : ∀ w ∈ u_ws RX2 TX2 5, w ∈ wsX2_addCell := fun _ h => List.mem_cons_of_mem _ (List.mem_append_right _ (h))
  have hl := lv_entry ([.ref mm, .int (nI ac), .int (nI ar), .int (bI ag)]) (n := 5) (Nat.le_of_ble_eq_true rfl)
  rw [lg_entry_eq]
  generalize (lg_sl ([.ref mm, .int (nI ac), .int (nI ar), .int (bI ag)]) ++ List.replicate (5 - (lg_sl ([.ref mm, .int (nI ac), .int (nI ar), .int (bI ag)])).length) Slot.unset).toArray = ls at hl ⊢
  have hl : lv_has ls 5 [(0, .ref mm), (1, .int (nI ac)), (2, .int (nI ar)), (3, .int (bI ag))] := hl
  show W p l e ({ frames := 1, cells := 0, slots := 0, locals := 22 } : Room) s m (([.ref mm, .int (nI ac), .int (nI ar), .int (bI ag)] : List Value).toArray) below meth c s.heap [] 0 0 (MQ below (va_Qv (fun (u : (Nat → Int32) × (Nat → Int32) × (Nat → Int32) × Nat × Nat) => (ag = true → u.1 = gro ∧ u.2.1 = gfi ∧ u.2.2.1 = upd gle (sz - 1) (gle (sz - 1) + 1) ∧ u.2.2.2.1 = sz ∧ u.2.2.2.2 = sz - 1) ∧ (ag = false → u.1 = upd gro sz (nI ar) ∧ u.2.1 = upd gfi sz (nI ac) ∧ u.2.2.1 = upd gle sz 1 ∧ u.2.2.2.1 = sz + 1 ∧ u.2.2.2.2 = sz)) (fun (u : (Nat → Int32) × (Nat → Int32) × (Nat → Int32) × Nat × Nat) t => wq D A (oX2 mm mro mfi mle (nI u.2.2.2.1) mlo :: aI cI mro 100 u.1 :: aI cI mfi 100 u.2.1 :: aI cI mle 100 u.2.2.1 :: aI cI mlo 200 (upd glo (20 * ar + ac) (nI u.2.2.2.2)) :: X) t) A) (([.ref mm, .int (nI ac), .int (nI ar), .int (bI ag)] : List Value).toArray) s 0 0 A) (F0 m 0 ls [])
  refine lv_iload_n hx hb dX2_addCell_0 rfl (lv_at hl 3 rfl) ?_
  refine lv_if_ne (tgt := 50) hx hb dX2_addCell_1 (by decide) (fun c_1 => ?_) (fun c_1 => ?_)
  · refine lv_aload_n hx hb dX2_addCell_50 rfl (lv_at hl 0 rfl) ?_
    refine va_get (D := D) (ci := 2) (v := .int (nI sz)) (C := RX2) (T := TX2) (N := 5) hx hb hts hiX2 hown hK hP 0 rfl rfl 3 (by decide) (hts (.fieldLink RX2 24 "LedgeLeaps$LedgeMap" "size" "I") (List.mem_of_getElem? (i := 2) rfl)) (fun _ h9 => h9) rfl dX2_addCell_51 ?_
    refine lv_iconst (v := 1) hx hb dX2_addCell_54 (by decide) ?_
    refine lv_isub hx hb dX2_addCell_55 ?_
    refine top_i (y := (nI (sz - 1))) (nI_sub1 (hg1 (bt_c c_1))) ?_
    refine lv_istore (lv' := [(4, .int (nI (sz - 1))), (0, .ref mm), (1, .int (nI ac)), (2, .int (nI ar)), (3, .int (bI ag))]) hx hb dX2_addCell_56 hl (by decide) rfl (fun ls hl => ?_)
    have h75 : sz - 1 < 100 := by have := hg1 (bt_c c_1); omega
    refine lv_aload_n hx hb dX2_addCell_58 rfl (lv_at hl 1 rfl) ?_
    refine va_get (D := D) (ci := 2) (v := .ref mle) (C := RX2) (T := TX2) (N := 5) hx hb hts hiX2 hown hK hP 0 rfl rfl 2 (by decide) (hts (.fieldLink RX2 18 "LedgeLeaps$LedgeMap" "lengths" "[I") (List.mem_of_getElem? (i := 4) rfl)) (fun _ h9 => h9) rfl dX2_addCell_59 ?_
    refine lv_iload hx hb dX2_addCell_62 (lv_at hl 0 rfl) ?_
    refine lv_aload_n hx hb dX2_addCell_64 rfl (lv_at hl 1 rfl) ?_
    refine va_get (D := D) (ci := 2) (v := .ref mle) (C := RX2) (T := TX2) (N := 5) hx hb hts hiX2 hown hK hP 0 rfl rfl 2 (by decide) (hts (.fieldLink RX2 18 "LedgeLeaps$LedgeMap" "lengths" "[I") (List.mem_of_getElem? (i := 4) rfl)) (fun _ h9 => h9) rfl dX2_addCell_65 ?_
    refine lv_iload hx hb dX2_addCell_68 (lv_at hl 0 rfl) ?_
    refine cSN_i CF hK hN hA hS (cut_of 5 [3, 0, 1, 2, 4] hP hD rfl rfl rfl) (m_at l D cI cZ cW cJ A (oX2 mm mro mfi mle (nI sz) mlo :: aI cI mro 100 gro :: aI cI mfi 100 gfi :: aI cI mlo 200 glo :: X) mle 100 gle (nI (sz - 1)) (by decide)) ⟨va_cnB 2 hts gX2_addCell_X8_at_n42 rfl rfl rfl (hN (RX2, 42, yX8_at) (List.mem_of_getElem? (i := 9) rfl)) (hts (.initialized RX8) (List.mem_of_getElem? (i := 7) rfl)) (by decide +kernel) ⟨Nat.le_of_ble_eq_true rfl, Nat.le_of_ble_eq_true rfl⟩, (hts (.static yX8_at) (List.mem_of_getElem? (i := 9) rfl)), trivial⟩ (As := [.ref mle, .int (nI (sz - 1))]) (rest := [.int (nI (sz - 1)), .ref mle]) rfl hl.1 rfl (Nat.le_of_ble_eq_true rfl) dX2_addCell_70 ⟨Nat.le_of_ble_eq_true rfl, Nat.le_of_ble_eq_true rfl⟩ (fun r_70 _ H locs hq hP hD hS => ?_)
    have hq : r_70 = atX 100 gle (nI (sz - 1)) := hq
    subst hq
    have hP : va_P D vwCl (oX2 mm mro mfi mle (nI sz) mlo :: aI cI mro 100 gro :: aI cI mfi 100 gfi :: aI cI mle 100 gle :: aI cI mlo 200 glo :: X) H := pm_P hP 5 [1, 2, 3, 0, 4] rfl
    have hD : va_D A (oX2 mm mro mfi mle (nI sz) mlo :: aI cI mro 100 gro :: aI cI mfi 100 gfi :: aI cI mle 100 gle :: aI cI mlo 200 glo :: X) := pm_D hD 5 [1, 2, 3, 0, 4] rfl rfl rfl
    refine top_i (y := (gle (sz - 1))) (at_nI h75 (by decide)) ?_
    refine lv_iconst (v := 1) hx hb dX2_addCell_73 (by decide) ?_
    refine lv_iadd hx hb dX2_addCell_74 ?_
    refine cSN_v CF hK hN hA hS (cut_of 5 [3, 0, 1, 2, 4] hP hD rfl rfl rfl) (m_store l D cI cZ cW cJ A (oX2 mm mro mfi mle (nI sz) mlo :: aI cI mro 100 gro :: aI cI mfi 100 gfi :: aI cI mlo 200 glo :: X) mle 100 gle (nI (sz - 1)) ((gle (sz - 1)) + 1) (by decide)) ⟨va_cnB 3 hts gX2_addCell_X8_store_n38 rfl rfl rfl (hN (RX2, 38, yX8_store) (List.mem_of_getElem? (i := 8) rfl)) (hts (.initialized RX8) (List.mem_of_getElem? (i := 7) rfl)) (by decide +kernel) ⟨Nat.le_of_ble_eq_true rfl, Nat.le_of_ble_eq_true rfl⟩, (hts (.static yX8_store) (List.mem_of_getElem? (i := 6) rfl)), trivial⟩ (As := [.ref mle, .int (nI (sz - 1)), .int ((gle (sz - 1)) + 1)]) (rest := []) rfl hl.1 rfl (Nat.le_of_ble_eq_true rfl) dX2_addCell_75 ⟨Nat.le_of_ble_eq_true rfl, Nat.le_of_ble_eq_true rfl⟩ (fun u_75 H locs hq hP hD hS => ?_)
    have hq_75 : u_75 = stX 100 gle (nI (sz - 1)) ((gle (sz - 1)) + 1) := hq
    have hP : va_P D vwCl (oX2 mm mro mfi mle (nI sz) mlo :: aI cI mro 100 gro :: aI cI mfi 100 gfi :: aI cI mle 100 u_75 :: aI cI mlo 200 glo :: X) H := pm_P hP 5 [1, 2, 3, 0, 4] rfl
    have hD : va_D A (oX2 mm mro mfi mle (nI sz) mlo :: aI cI mro 100 gro :: aI cI mfi 100 gfi :: aI cI mle 100 u_75 :: aI cI mlo 200 glo :: X) := pm_D hD 5 [1, 2, 3, 0, 4] rfl rfl rfl
    rw [hq_75, st_nI (h75) (by decide)] at hP hD
    have hP : va_P D vwCl (oX2 mm mro mfi mle (nI sz) mlo :: aI cI mro 100 gro :: aI cI mfi 100 gfi :: aI cI mle 100 (upd gle (sz - 1) (gle (sz - 1) + 1)) :: aI cI mlo 200 glo :: X) H := hP
    have hD : va_D A (oX2 mm mro mfi mle (nI sz) mlo :: aI cI mro 100 gro :: aI cI mfi 100 gfi :: aI cI mle 100 (upd gle (sz - 1) (gle (sz - 1) + 1)) :: aI cI mlo 200 glo :: X) := hD
    refine lv_aload_n hx hb dX2_addCell_78 rfl (lv_at hl 1 rfl) ?_
    refine va_get (D := D) (ci := 2) (v := .ref mlo) (C := RX2) (T := TX2) (N := 5) hx hb hts hiX2 hown hK hP 0 rfl rfl 4 (by decide) (hts (.fieldLink RX2 21 "LedgeLeaps$LedgeMap" "ledgesOfCells" "[I") (List.mem_of_getElem? (i := 5) rfl)) (fun _ h9 => h9) rfl dX2_addCell_79 ?_
    refine lv_iload_n hx hb dX2_addCell_82 rfl (lv_at hl 3 rfl) ?_
    refine lv_bipush (v := 20) hx hb dX2_addCell_83 (by decide) ?_
    refine lv_imul hx hb dX2_addCell_85 ?_
    refine lv_iload_n hx hb dX2_addCell_86 rfl (lv_at hl 2 rfl) ?_
    refine lv_iadd hx hb dX2_addCell_87 ?_
    refine top_i (y := (nI (20 * ar + ac))) (nI_20 ar ac) ?_
    refine lv_iload hx hb dX2_addCell_88 (lv_at hl 0 rfl) ?_
    refine cSN_v CF hK hN hA hS (cut_of 5 [4, 0, 1, 2, 3] hP hD rfl rfl rfl) (m_store l D cI cZ cW cJ A (oX2 mm mro mfi mle (nI sz) mlo :: aI cI mro 100 gro :: aI cI mfi 100 gfi :: aI cI mle 100 (upd gle (sz - 1) (gle (sz - 1) + 1)) :: X) mlo 200 glo (nI (20 * ar + ac)) (nI (sz - 1)) (by decide)) ⟨va_cnB 3 hts gX2_addCell_X8_store_n38 rfl rfl rfl (hN (RX2, 38, yX8_store) (List.mem_of_getElem? (i := 8) rfl)) (hts (.initialized RX8) (List.mem_of_getElem? (i := 7) rfl)) (by decide +kernel) ⟨Nat.le_of_ble_eq_true rfl, Nat.le_of_ble_eq_true rfl⟩, (hts (.static yX8_store) (List.mem_of_getElem? (i := 6) rfl)), trivial⟩ (As := [.ref mlo, .int (nI (20 * ar + ac)), .int (nI (sz - 1))]) (rest := []) rfl hl.1 rfl (Nat.le_of_ble_eq_true rfl) dX2_addCell_90 ⟨Nat.le_of_ble_eq_true rfl, Nat.le_of_ble_eq_true rfl⟩ (fun u_90 H locs hq hP hD hS => ?_)
    have hq_90 : u_90 = stX 200 glo (nI (20 * ar + ac)) (nI (sz - 1)) := hq
    have hP : va_P D vwCl (oX2 mm mro mfi mle (nI sz) mlo :: aI cI mro 100 gro :: aI cI mfi 100 gfi :: aI cI mle 100 (upd gle (sz - 1) (gle (sz - 1) + 1)) :: aI cI mlo 200 u_90 :: X) H := pm_P hP 5 [1, 2, 3, 4, 0] rfl
    have hD : va_D A (oX2 mm mro mfi mle (nI sz) mlo :: aI cI mro 100 gro :: aI cI mfi 100 gfi :: aI cI mle 100 (upd gle (sz - 1) (gle (sz - 1) + 1)) :: aI cI mlo 200 u_90 :: X) := pm_D hD 5 [1, 2, 3, 4, 0] rfl rfl rfl
    have hi90 : 20 * ar + ac < 200 := by omega
    have e_90 : stX 200 glo (nI (20 * ar + ac)) (nI (sz - 1)) = (upd glo (20 * ar + ac) (nI (sz - 1))) := st_nI hi90 (by decide)
    rw [hq_90, e_90] at hP hD
    have hP : va_P D vwCl (oX2 mm mro mfi mle (nI sz) mlo :: aI cI mro 100 gro :: aI cI mfi 100 gfi :: aI cI mle 100 (upd gle (sz - 1) (gle (sz - 1) + 1)) :: aI cI mlo 200 (upd glo (20 * ar + ac) (nI (sz - 1))) :: X) H := hP
    have hD : va_D A (oX2 mm mro mfi mle (nI sz) mlo :: aI cI mro 100 gro :: aI cI mfi 100 gfi :: aI cI mle 100 (upd gle (sz - 1) (gle (sz - 1) + 1)) :: aI cI mlo 200 (upd glo (20 * ar + ac) (nI (sz - 1))) :: X) := hD
    exact W.vret hx hb hr (fun t9 ht9 hW9 => ⟨⟨(gro, gfi, upd gle (sz - 1) (gle (sz - 1) + 1), sz, sz - 1), rfl, ⟨fun _ => ⟨rfl, rfl, rfl, rfl, rfl⟩, fun h => absurd (h.symm.trans (bt_c c_1)) (by decide)⟩, by rw [ht9]; exact hP, hD⟩, hS.F ht9⟩) hS.2.2 dX2_addCell_93
  · refine lv_aload_n hx hb dX2_addCell_4 rfl (lv_at hl 0 rfl) ?_
    refine va_get (D := D) (ci := 2) (v := .ref mro) (C := RX2) (T := TX2) (N := 5) hx hb hts hiX2 hown hK hP 0 rfl rfl 0 (by decide) (hts (.fieldLink RX2 9 "LedgeLeaps$LedgeMap" "rows" "[I") (List.mem_of_getElem? (i := 1) rfl)) (fun _ h9 => h9) rfl dX2_addCell_5 ?_
    refine lv_aload_n hx hb dX2_addCell_8 rfl (lv_at hl 0 rfl) ?_
    refine va_get (D := D) (ci := 2) (v := .int (nI sz)) (C := RX2) (T := TX2) (N := 5) hx hb hts hiX2 hown hK hP 0 rfl rfl 3 (by decide) (hts (.fieldLink RX2 24 "LedgeLeaps$LedgeMap" "size" "I") (List.mem_of_getElem? (i := 2) rfl)) (fun _ h9 => h9) rfl dX2_addCell_9 ?_
    refine lv_iload_n hx hb dX2_addCell_12 rfl (lv_at hl 2 rfl) ?_
    refine cSN_v CF hK hN hA hS (cut_of 5 [1, 0, 2, 3, 4] hP hD rfl rfl rfl) (m_store l D cI cZ cW cJ A (oX2 mm mro mfi mle (nI sz) mlo :: aI cI mfi 100 gfi :: aI cI mle 100 gle :: aI cI mlo 200 glo :: X) mro 100 gro (nI sz) (nI ar) (by decide)) ⟨va_cnB 3 hts gX2_addCell_X8_store_n38 rfl rfl rfl (hN (RX2, 38, yX8_store) (List.mem_of_getElem? (i := 8) rfl)) (hts (.initialized RX8) (List.mem_of_getElem? (i := 7) rfl)) (by decide +kernel) ⟨Nat.le_of_ble_eq_true rfl, Nat.le_of_ble_eq_true rfl⟩, (hts (.static yX8_store) (List.mem_of_getElem? (i := 6) rfl)), trivial⟩ (As := [.ref mro, .int (nI sz), .int (nI ar)]) (rest := []) rfl hl.1 rfl (Nat.le_of_ble_eq_true rfl) dX2_addCell_13 ⟨Nat.le_of_ble_eq_true rfl, Nat.le_of_ble_eq_true rfl⟩ (fun u_13 H locs hq hP hD hS => ?_)
    have hq_13 : u_13 = stX 100 gro (nI sz) (nI ar) := hq
    have hP : va_P D vwCl (oX2 mm mro mfi mle (nI sz) mlo :: aI cI mro 100 u_13 :: aI cI mfi 100 gfi :: aI cI mle 100 gle :: aI cI mlo 200 glo :: X) H := pm_P hP 5 [1, 0, 2, 3, 4] rfl
    have hD : va_D A (oX2 mm mro mfi mle (nI sz) mlo :: aI cI mro 100 u_13 :: aI cI mfi 100 gfi :: aI cI mle 100 gle :: aI cI mlo 200 glo :: X) := pm_D hD 5 [1, 0, 2, 3, 4] rfl rfl rfl
    rw [hq_13, st_nI (hg0 (bf_c c_1)) (by decide)] at hP hD
    have hP : va_P D vwCl (oX2 mm mro mfi mle (nI sz) mlo :: aI cI mro 100 (upd gro sz (nI ar)) :: aI cI mfi 100 gfi :: aI cI mle 100 gle :: aI cI mlo 200 glo :: X) H := hP
    have hD : va_D A (oX2 mm mro mfi mle (nI sz) mlo :: aI cI mro 100 (upd gro sz (nI ar)) :: aI cI mfi 100 gfi :: aI cI mle 100 gle :: aI cI mlo 200 glo :: X) := hD
    refine lv_aload_n hx hb dX2_addCell_16 rfl (lv_at hl 0 rfl) ?_
    refine va_get (D := D) (ci := 2) (v := .ref mfi) (C := RX2) (T := TX2) (N := 5) hx hb hts hiX2 hown hK hP 0 rfl rfl 1 (by decide) (hts (.fieldLink RX2 15 "LedgeLeaps$LedgeMap" "firstColumns" "[I") (List.mem_of_getElem? (i := 3) rfl)) (fun _ h9 => h9) rfl dX2_addCell_17 ?_
    refine lv_aload_n hx hb dX2_addCell_20 rfl (lv_at hl 0 rfl) ?_
    refine va_get (D := D) (ci := 2) (v := .int (nI sz)) (C := RX2) (T := TX2) (N := 5) hx hb hts hiX2 hown hK hP 0 rfl rfl 3 (by decide) (hts (.fieldLink RX2 24 "LedgeLeaps$LedgeMap" "size" "I") (List.mem_of_getElem? (i := 2) rfl)) (fun _ h9 => h9) rfl dX2_addCell_21 ?_
    refine lv_iload_n hx hb dX2_addCell_24 rfl (lv_at hl 1 rfl) ?_
    refine cSN_v CF hK hN hA hS (cut_of 5 [2, 0, 1, 3, 4] hP hD rfl rfl rfl) (m_store l D cI cZ cW cJ A (oX2 mm mro mfi mle (nI sz) mlo :: aI cI mro 100 (upd gro sz (nI ar)) :: aI cI mle 100 gle :: aI cI mlo 200 glo :: X) mfi 100 gfi (nI sz) (nI ac) (by decide)) ⟨va_cnB 3 hts gX2_addCell_X8_store_n38 rfl rfl rfl (hN (RX2, 38, yX8_store) (List.mem_of_getElem? (i := 8) rfl)) (hts (.initialized RX8) (List.mem_of_getElem? (i := 7) rfl)) (by decide +kernel) ⟨Nat.le_of_ble_eq_true rfl, Nat.le_of_ble_eq_true rfl⟩, (hts (.static yX8_store) (List.mem_of_getElem? (i := 6) rfl)), trivial⟩ (As := [.ref mfi, .int (nI sz), .int (nI ac)]) (rest := []) rfl hl.1 rfl (Nat.le_of_ble_eq_true rfl) dX2_addCell_25 ⟨Nat.le_of_ble_eq_true rfl, Nat.le_of_ble_eq_true rfl⟩ (fun u_25 H locs hq hP hD hS => ?_)
    have hq_25 : u_25 = stX 100 gfi (nI sz) (nI ac) := hq
    have hP : va_P D vwCl (oX2 mm mro mfi mle (nI sz) mlo :: aI cI mro 100 (upd gro sz (nI ar)) :: aI cI mfi 100 u_25 :: aI cI mle 100 gle :: aI cI mlo 200 glo :: X) H := pm_P hP 5 [1, 2, 0, 3, 4] rfl
    have hD : va_D A (oX2 mm mro mfi mle (nI sz) mlo :: aI cI mro 100 (upd gro sz (nI ar)) :: aI cI mfi 100 u_25 :: aI cI mle 100 gle :: aI cI mlo 200 glo :: X) := pm_D hD 5 [1, 2, 0, 3, 4] rfl rfl rfl
    rw [hq_25, st_nI (hg0 (bf_c c_1)) (by decide)] at hP hD
    have hP : va_P D vwCl (oX2 mm mro mfi mle (nI sz) mlo :: aI cI mro 100 (upd gro sz (nI ar)) :: aI cI mfi 100 (upd gfi sz (nI ac)) :: aI cI mle 100 gle :: aI cI mlo 200 glo :: X) H := hP
    have hD : va_D A (oX2 mm mro mfi mle (nI sz) mlo :: aI cI mro 100 (upd gro sz (nI ar)) :: aI cI mfi 100 (upd gfi sz (nI ac)) :: aI cI mle 100 gle :: aI cI mlo 200 glo :: X) := hD
    refine lv_aload_n hx hb dX2_addCell_28 rfl (lv_at hl 0 rfl) ?_
    refine va_get (D := D) (ci := 2) (v := .ref mle) (C := RX2) (T := TX2) (N := 5) hx hb hts hiX2 hown hK hP 0 rfl rfl 2 (by decide) (hts (.fieldLink RX2 18 "LedgeLeaps$LedgeMap" "lengths" "[I") (List.mem_of_getElem? (i := 4) rfl)) (fun _ h9 => h9) rfl dX2_addCell_29 ?_
    refine lv_aload_n hx hb dX2_addCell_32 rfl (lv_at hl 0 rfl) ?_
    refine va_get (D := D) (ci := 2) (v := .int (nI sz)) (C := RX2) (T := TX2) (N := 5) hx hb hts hiX2 hown hK hP 0 rfl rfl 3 (by decide) (hts (.fieldLink RX2 24 "LedgeLeaps$LedgeMap" "size" "I") (List.mem_of_getElem? (i := 2) rfl)) (fun _ h9 => h9) rfl dX2_addCell_33 ?_
    refine lv_iconst (v := 0) hx hb dX2_addCell_36 (by decide) ?_
    refine cSN_v CF hK hN hA hS (cut_of 5 [3, 0, 1, 2, 4] hP hD rfl rfl rfl) (m_store l D cI cZ cW cJ A (oX2 mm mro mfi mle (nI sz) mlo :: aI cI mro 100 (upd gro sz (nI ar)) :: aI cI mfi 100 (upd gfi sz (nI ac)) :: aI cI mlo 200 glo :: X) mle 100 gle (nI sz) 0 (by decide)) ⟨va_cnB 3 hts gX2_addCell_X8_store_n38 rfl rfl rfl (hN (RX2, 38, yX8_store) (List.mem_of_getElem? (i := 8) rfl)) (hts (.initialized RX8) (List.mem_of_getElem? (i := 7) rfl)) (by decide +kernel) ⟨Nat.le_of_ble_eq_true rfl, Nat.le_of_ble_eq_true rfl⟩, (hts (.static yX8_store) (List.mem_of_getElem? (i := 6) rfl)), trivial⟩ (As := [.ref mle, .int (nI sz), .int 0]) (rest := []) rfl hl.1 rfl (Nat.le_of_ble_eq_true rfl) dX2_addCell_37 ⟨Nat.le_of_ble_eq_true rfl, Nat.le_of_ble_eq_true rfl⟩ (fun u_37 H locs hq hP hD hS => ?_)
    have hq_37 : u_37 = stX 100 gle (nI sz) 0 := hq
    have hP : va_P D vwCl (oX2 mm mro mfi mle (nI sz) mlo :: aI cI mro 100 (upd gro sz (nI ar)) :: aI cI mfi 100 (upd gfi sz (nI ac)) :: aI cI mle 100 u_37 :: aI cI mlo 200 glo :: X) H := pm_P hP 5 [1, 2, 3, 0, 4] rfl
    have hD : va_D A (oX2 mm mro mfi mle (nI sz) mlo :: aI cI mro 100 (upd gro sz (nI ar)) :: aI cI mfi 100 (upd gfi sz (nI ac)) :: aI cI mle 100 u_37 :: aI cI mlo 200 glo :: X) := pm_D hD 5 [1, 2, 3, 0, 4] rfl rfl rfl
    rw [hq_37, st_nI (hg0 (bf_c c_1)) (by decide)] at hP hD
    have hP : va_P D vwCl (oX2 mm mro mfi mle (nI sz) mlo :: aI cI mro 100 (upd gro sz (nI ar)) :: aI cI mfi 100 (upd gfi sz (nI ac)) :: aI cI mle 100 (upd gle sz 0) :: aI cI mlo 200 glo :: X) H := hP
    have hD : va_D A (oX2 mm mro mfi mle (nI sz) mlo :: aI cI mro 100 (upd gro sz (nI ar)) :: aI cI mfi 100 (upd gfi sz (nI ac)) :: aI cI mle 100 (upd gle sz 0) :: aI cI mlo 200 glo :: X) := hD
    refine lv_aload_n hx hb dX2_addCell_40 rfl (lv_at hl 0 rfl) ?_
    refine lv_dup hx hb dX2_addCell_41 rfl ?_
    refine va_get (D := D) (ci := 2) (v := .int (nI sz)) (C := RX2) (T := TX2) (N := 5) hx hb hts hiX2 hown hK hP 0 rfl rfl 3 (by decide) (hts (.fieldLink RX2 24 "LedgeLeaps$LedgeMap" "size" "I") (List.mem_of_getElem? (i := 2) rfl)) (fun _ h9 => h9) rfl dX2_addCell_42 ?_
    refine lv_iconst (v := 1) hx hb dX2_addCell_45 (by decide) ?_
    refine lv_iadd hx hb dX2_addCell_46 ?_
    refine top_i (y := (nI (sz + 1))) (nI_1 sz) ?_
    refine va_put (D := D) (ci := 2) (v := .int (nI (sz + 1))) (ty := .int) (C := RX2) (T := TX2) (N := 5) hx hb hts hiX2 tyX2 tyX2_ok nmX2 hown hK hP hD hS 0 rfl rfl 3 (by decide) (hts (.fieldLink RX2 24 "LedgeLeaps$LedgeMap" "size" "I") (List.mem_of_getElem? (i := 2) rfl)) (fun _ h9 => h9) rfl (by decide +kernel) rfl rfl (Nat.le_of_ble_eq_true rfl) dX2_addCell_47 (fun H locs hP hD hS => ?_)
    have hP : va_P D vwCl (oX2 mm mro mfi mle (nI (sz + 1)) mlo :: aI cI mro 100 (upd gro sz (nI ar)) :: aI cI mfi 100 (upd gfi sz (nI ac)) :: aI cI mle 100 (upd gle sz 0) :: aI cI mlo 200 glo :: X) H := hP
    have hD : va_D A (oX2 mm mro mfi mle (nI (sz + 1)) mlo :: aI cI mro 100 (upd gro sz (nI ar)) :: aI cI mfi 100 (upd gfi sz (nI ac)) :: aI cI mle 100 (upd gle sz 0) :: aI cI mlo 200 glo :: X) := hD
    refine lv_aload_n hx hb dX2_addCell_50 rfl (lv_at hl 0 rfl) ?_
    refine va_get (D := D) (ci := 2) (v := .int (nI (sz + 1))) (C := RX2) (T := TX2) (N := 5) hx hb hts hiX2 hown hK hP 0 rfl rfl 3 (by decide) (hts (.fieldLink RX2 24 "LedgeLeaps$LedgeMap" "size" "I") (List.mem_of_getElem? (i := 2) rfl)) (fun _ h9 => h9) rfl dX2_addCell_51 ?_
    refine lv_iconst (v := 1) hx hb dX2_addCell_54 (by decide) ?_
    refine lv_isub hx hb dX2_addCell_55 ?_
    refine top_i (y := (nI sz)) (nI_pred sz) ?_
    refine lv_istore (lv' := [(4, .int (nI sz)), (0, .ref mm), (1, .int (nI ac)), (2, .int (nI ar)), (3, .int (bI ag))]) hx hb dX2_addCell_56 hl (by decide) rfl (fun ls hl => ?_)
    refine lv_aload_n hx hb dX2_addCell_58 rfl (lv_at hl 1 rfl) ?_
    refine va_get (D := D) (ci := 2) (v := .ref mle) (C := RX2) (T := TX2) (N := 5) hx hb hts hiX2 hown hK hP 0 rfl rfl 2 (by decide) (hts (.fieldLink RX2 18 "LedgeLeaps$LedgeMap" "lengths" "[I") (List.mem_of_getElem? (i := 4) rfl)) (fun _ h9 => h9) rfl dX2_addCell_59 ?_
    refine lv_iload hx hb dX2_addCell_62 (lv_at hl 0 rfl) ?_
    refine lv_aload_n hx hb dX2_addCell_64 rfl (lv_at hl 1 rfl) ?_
    refine va_get (D := D) (ci := 2) (v := .ref mle) (C := RX2) (T := TX2) (N := 5) hx hb hts hiX2 hown hK hP 0 rfl rfl 2 (by decide) (hts (.fieldLink RX2 18 "LedgeLeaps$LedgeMap" "lengths" "[I") (List.mem_of_getElem? (i := 4) rfl)) (fun _ h9 => h9) rfl dX2_addCell_65 ?_
    refine lv_iload hx hb dX2_addCell_68 (lv_at hl 0 rfl) ?_
    refine cSN_i CF hK hN hA hS (cut_of 5 [3, 0, 1, 2, 4] hP hD rfl rfl rfl) (m_at l D cI cZ cW cJ A (oX2 mm mro mfi mle (nI (sz + 1)) mlo :: aI cI mro 100 (upd gro sz (nI ar)) :: aI cI mfi 100 (upd gfi sz (nI ac)) :: aI cI mlo 200 glo :: X) mle 100 (upd gle sz 0) (nI sz) (by decide)) ⟨va_cnB 2 hts gX2_addCell_X8_at_n42 rfl rfl rfl (hN (RX2, 42, yX8_at) (List.mem_of_getElem? (i := 9) rfl)) (hts (.initialized RX8) (List.mem_of_getElem? (i := 7) rfl)) (by decide +kernel) ⟨Nat.le_of_ble_eq_true rfl, Nat.le_of_ble_eq_true rfl⟩, (hts (.static yX8_at) (List.mem_of_getElem? (i := 9) rfl)), trivial⟩ (As := [.ref mle, .int (nI sz)]) (rest := [.int (nI sz), .ref mle]) rfl hl.1 rfl (Nat.le_of_ble_eq_true rfl) dX2_addCell_70 ⟨Nat.le_of_ble_eq_true rfl, Nat.le_of_ble_eq_true rfl⟩ (fun r_70 _ H locs hq hP hD hS => ?_)
    have hq : r_70 = atX 100 (upd gle sz 0) (nI sz) := hq
    subst hq
    have hP : va_P D vwCl (oX2 mm mro mfi mle (nI (sz + 1)) mlo :: aI cI mro 100 (upd gro sz (nI ar)) :: aI cI mfi 100 (upd gfi sz (nI ac)) :: aI cI mle 100 (upd gle sz 0) :: aI cI mlo 200 glo :: X) H := pm_P hP 5 [1, 2, 3, 0, 4] rfl
    have hD : va_D A (oX2 mm mro mfi mle (nI (sz + 1)) mlo :: aI cI mro 100 (upd gro sz (nI ar)) :: aI cI mfi 100 (upd gfi sz (nI ac)) :: aI cI mle 100 (upd gle sz 0) :: aI cI mlo 200 glo :: X) := pm_D hD 5 [1, 2, 3, 0, 4] rfl rfl rfl
    refine top_i (y := 0) (by rw [at_nI (hg0 (bf_c c_1)) (by decide)]; exact pk_us) ?_
    refine lv_iconst (v := 1) hx hb dX2_addCell_73 (by decide) ?_
    refine lv_iadd hx hb dX2_addCell_74 ?_
    refine top_i (y := 1) (by decide) ?_
    refine cSN_v CF hK hN hA hS (cut_of 5 [3, 0, 1, 2, 4] hP hD rfl rfl rfl) (m_store l D cI cZ cW cJ A (oX2 mm mro mfi mle (nI (sz + 1)) mlo :: aI cI mro 100 (upd gro sz (nI ar)) :: aI cI mfi 100 (upd gfi sz (nI ac)) :: aI cI mlo 200 glo :: X) mle 100 (upd gle sz 0) (nI sz) 1 (by decide)) ⟨va_cnB 3 hts gX2_addCell_X8_store_n38 rfl rfl rfl (hN (RX2, 38, yX8_store) (List.mem_of_getElem? (i := 8) rfl)) (hts (.initialized RX8) (List.mem_of_getElem? (i := 7) rfl)) (by decide +kernel) ⟨Nat.le_of_ble_eq_true rfl, Nat.le_of_ble_eq_true rfl⟩, (hts (.static yX8_store) (List.mem_of_getElem? (i := 6) rfl)), trivial⟩ (As := [.ref mle, .int (nI sz), .int 1]) (rest := []) rfl hl.1 rfl (Nat.le_of_ble_eq_true rfl) dX2_addCell_75 ⟨Nat.le_of_ble_eq_true rfl, Nat.le_of_ble_eq_true rfl⟩ (fun u_75 H locs hq hP hD hS => ?_)
    have hq_75 : u_75 = stX 100 (upd gle sz 0) (nI sz) 1 := hq
    have hP : va_P D vwCl (oX2 mm mro mfi mle (nI (sz + 1)) mlo :: aI cI mro 100 (upd gro sz (nI ar)) :: aI cI mfi 100 (upd gfi sz (nI ac)) :: aI cI mle 100 u_75 :: aI cI mlo 200 glo :: X) H := pm_P hP 5 [1, 2, 3, 0, 4] rfl
    have hD : va_D A (oX2 mm mro mfi mle (nI (sz + 1)) mlo :: aI cI mro 100 (upd gro sz (nI ar)) :: aI cI mfi 100 (upd gfi sz (nI ac)) :: aI cI mle 100 u_75 :: aI cI mlo 200 glo :: X) := pm_D hD 5 [1, 2, 3, 0, 4] rfl rfl rfl
    rw [hq_75, st_nI (hg0 (bf_c c_1)) (by decide), upd_upd] at hP hD
    have hP : va_P D vwCl (oX2 mm mro mfi mle (nI (sz + 1)) mlo :: aI cI mro 100 (upd gro sz (nI ar)) :: aI cI mfi 100 (upd gfi sz (nI ac)) :: aI cI mle 100 (upd gle sz 1) :: aI cI mlo 200 glo :: X) H := hP
    have hD : va_D A (oX2 mm mro mfi mle (nI (sz + 1)) mlo :: aI cI mro 100 (upd gro sz (nI ar)) :: aI cI mfi 100 (upd gfi sz (nI ac)) :: aI cI mle 100 (upd gle sz 1) :: aI cI mlo 200 glo :: X) := hD
    refine lv_aload_n hx hb dX2_addCell_78 rfl (lv_at hl 1 rfl) ?_
    refine va_get (D := D) (ci := 2) (v := .ref mlo) (C := RX2) (T := TX2) (N := 5) hx hb hts hiX2 hown hK hP 0 rfl rfl 4 (by decide) (hts (.fieldLink RX2 21 "LedgeLeaps$LedgeMap" "ledgesOfCells" "[I") (List.mem_of_getElem? (i := 5) rfl)) (fun _ h9 => h9) rfl dX2_addCell_79 ?_
    refine lv_iload_n hx hb dX2_addCell_82 rfl (lv_at hl 3 rfl) ?_
    refine lv_bipush (v := 20) hx hb dX2_addCell_83 (by decide) ?_
    refine lv_imul hx hb dX2_addCell_85 ?_
    refine lv_iload_n hx hb dX2_addCell_86 rfl (lv_at hl 2 rfl) ?_
    refine lv_iadd hx hb dX2_addCell_87 ?_
    refine top_i (y := (nI (20 * ar + ac))) (nI_20 ar ac) ?_
    refine lv_iload hx hb dX2_addCell_88 (lv_at hl 0 rfl) ?_
    refine cSN_v CF hK hN hA hS (cut_of 5 [4, 0, 1, 2, 3] hP hD rfl rfl rfl) (m_store l D cI cZ cW cJ A (oX2 mm mro mfi mle (nI (sz + 1)) mlo :: aI cI mro 100 (upd gro sz (nI ar)) :: aI cI mfi 100 (upd gfi sz (nI ac)) :: aI cI mle 100 (upd gle sz 1) :: X) mlo 200 glo (nI (20 * ar + ac)) (nI sz) (by decide)) ⟨va_cnB 3 hts gX2_addCell_X8_store_n38 rfl rfl rfl (hN (RX2, 38, yX8_store) (List.mem_of_getElem? (i := 8) rfl)) (hts (.initialized RX8) (List.mem_of_getElem? (i := 7) rfl)) (by decide +kernel) ⟨Nat.le_of_ble_eq_true rfl, Nat.le_of_ble_eq_true rfl⟩, (hts (.static yX8_store) (List.mem_of_getElem? (i := 6) rfl)), trivial⟩ (As := [.ref mlo, .int (nI (20 * ar + ac)), .int (nI sz)]) (rest := []) rfl hl.1 rfl (Nat.le_of_ble_eq_true rfl) dX2_addCell_90 ⟨Nat.le_of_ble_eq_true rfl, Nat.le_of_ble_eq_true rfl⟩ (fun u_90 H locs hq hP hD hS => ?_)
    have hq_90 : u_90 = stX 200 glo (nI (20 * ar + ac)) (nI sz) := hq
    have hP : va_P D vwCl (oX2 mm mro mfi mle (nI (sz + 1)) mlo :: aI cI mro 100 (upd gro sz (nI ar)) :: aI cI mfi 100 (upd gfi sz (nI ac)) :: aI cI mle 100 (upd gle sz 1) :: aI cI mlo 200 u_90 :: X) H := pm_P hP 5 [1, 2, 3, 4, 0] rfl
    have hD : va_D A (oX2 mm mro mfi mle (nI (sz + 1)) mlo :: aI cI mro 100 (upd gro sz (nI ar)) :: aI cI mfi 100 (upd gfi sz (nI ac)) :: aI cI mle 100 (upd gle sz 1) :: aI cI mlo 200 u_90 :: X) := pm_D hD 5 [1, 2, 3, 4, 0] rfl rfl rfl
    have hi90 : 20 * ar + ac < 200 := by omega
    have e_90 : stX 200 glo (nI (20 * ar + ac)) (nI sz) = (upd glo (20 * ar + ac) (nI sz)) := st_nI hi90 (by decide)
    rw [hq_90, e_90] at hP hD
    have hP : va_P D vwCl (oX2 mm mro mfi mle (nI (sz + 1)) mlo :: aI cI mro 100 (upd gro sz (nI ar)) :: aI cI mfi 100 (upd gfi sz (nI ac)) :: aI cI mle 100 (upd gle sz 1) :: aI cI mlo 200 (upd glo (20 * ar + ac) (nI sz)) :: X) H := hP
    have hD : va_D A (oX2 mm mro mfi mle (nI (sz + 1)) mlo :: aI cI mro 100 (upd gro sz (nI ar)) :: aI cI mfi 100 (upd gfi sz (nI ac)) :: aI cI mle 100 (upd gle sz 1) :: aI cI mlo 200 (upd glo (20 * ar + ac) (nI sz)) :: X) := hD
    exact W.vret hx hb hr (fun t9 ht9 hW9 => ⟨⟨(upd gro sz (nI ar), upd gfi sz (nI ac), upd gle sz 1, sz + 1, sz), rfl, ⟨fun h => absurd (h.symm.trans (bf_c c_1)) (by decide), fun _ => ⟨rfl, rfl, rfl, rfl, rfl⟩⟩, by rw [ht9]; exact hP, hD⟩, hS.F ht9⟩) hS.2.2 dX2_addCell_93
