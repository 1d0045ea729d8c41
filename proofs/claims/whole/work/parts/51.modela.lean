set_option maxHeartbeats 4000000 in
set_option maxRecDepth 100000 in
theorem n_in (l : Launch) (D : va_G) (cI cZ cW cJ : ClassId) (A : Nat → Prop) (X : va_W) (xv xl xh : Int32) : Met l yX9_in wsX9_in ({ frames := 0, cells := 0, slots := 0, locals := 0 }) (va_Pc [.int xv, .int xl, .int xh] (wd D (tyL cI cZ cW cJ) A (X))) (va_Qi (fun (r : Int32) (u : Unit) => r = bI (inX xv xl xh)) (fun (u : Unit) t => wq D A (X) t) A) 0 0 A := by
  refine Met.ofW (cc := cX9_in) (maxL := 3) (ret := (some .boolean)) (by decide) rfl ?_
  intro p e s m args below meth c s₁ B hml hv
  obtain ⟨rfl, hsz9, hP, hK, hD, hN⟩ := hv
  have hx := B.exec
  have hb := B.bytes
  have hr := B.returns
  have hts := atoms_spec (ws := wsX9_in) B.pre
  have hown : s.vm.findClass RX9 = some m.cls := findClass_of_methodNamed B.named
  have hlocks := B.notSynchronized
  have CF : CallFix p m c cX9_in 3 s _ wsX9_in RX9 := ⟨hx, hb, hml, hown, hts⟩
  have hA : ∀ q : Nat, s.heap.size ≤ q → A q := hsz9
  have hS : va_S A s.heap s.heap [] := va_S.rf
  have hl := lv_entry ([.int xv, .int xl, .int xh]) (n := 3) (Nat.le_of_ble_eq_true rfl)
  rw [lg_entry_eq]
  generalize (lg_sl ([.int xv, .int xl, .int xh]) ++ List.replicate (3 - (lg_sl ([.int xv, .int xl, .int xh])).length) Slot.unset).toArray = ls at hl ⊢
  have hl : lv_has ls 3 [(0, .int xv), (1, .int xl), (2, .int xh)] := hl
  show W p l e ({ frames := 0, cells := 0, slots := 0, locals := 0 } : Room) s m (([.int xv, .int xl, .int xh] : List Value).toArray) below meth c s.heap [] 0 0 (MQ below (va_Qi (fun (r : Int32) (u : Unit) => r = bI (inX xv xl xh)) (fun (u : Unit) t => wq D A (X) t) A) (([.int xv, .int xl, .int xh] : List Value).toArray) s 0 0 A) (F0 m 0 ls [])
  refine lv_iload_n hx hb dX9_in_0 rfl (lv_at hl 0 rfl) ?_
  refine lv_iload_n hx hb dX9_in_1 rfl (lv_at hl 1 rfl) ?_
  refine lv_icmp_lt (tgt := 14) hx hb dX9_in_2 (by decide) (fun c_2 => ?_) (fun c_2 => ?_)
  · refine lv_iconst (v := 0) hx hb dX9_in_14 (by decide) ?_
    exact W.zret (v := 0) (ty := .boolean) hx hb hr (rfl) (fun t9 ht9 hW9 => ⟨⟨0, (), rfl, by simp [bI, inX, c_2], by rw [ht9]; exact hP, hD⟩, hS.F ht9⟩) hS.2.2 dX9_in_15
  · refine lv_iload_n hx hb dX9_in_5 rfl (lv_at hl 0 rfl) ?_
    refine lv_iload_n hx hb dX9_in_6 rfl (lv_at hl 2 rfl) ?_
    refine lv_icmp_gt (tgt := 14) hx hb dX9_in_7 (by decide) (fun c_7 => ?_) (fun c_7 => ?_)
    · refine lv_iconst (v := 0) hx hb dX9_in_14 (by decide) ?_
      exact W.zret (v := 0) (ty := .boolean) hx hb hr (rfl) (fun t9 ht9 hW9 => ⟨⟨0, (), rfl, by simp [bI, inX, c_2, c_7], by rw [ht9]; exact hP, hD⟩, hS.F ht9⟩) hS.2.2 dX9_in_15
    · refine lv_iconst (v := 1) hx hb dX9_in_10 (by decide) ?_
      refine lv_goto (tgt := 15) hx hb dX9_in_11 (by decide) ?_
      exact W.zret (v := 1) (ty := .boolean) hx hb hr (rfl) (fun t9 ht9 hW9 => ⟨⟨1, (), rfl, by simp [bI, inX, c_2, c_7], by rw [ht9]; exact hP, hD⟩, hS.F ht9⟩) hS.2.2 dX9_in_15
set_option maxHeartbeats 4000000 in
set_option maxRecDepth 100000 in
theorem n_isCell (l : Launch) (D : va_G) (cI cZ cW cJ : ClassId) (A : Nat → Prop) (X : va_W) (xc xr : Int32) : Met l yX9_isCell wsX9_isCell ({ frames := 1, cells := 0, slots := 0, locals := 22 }) (va_Pc [.int xc, .int xr] (wd D (tyL cI cZ cW cJ) A (X))) (va_Qi (fun (r : Int32) (u : Unit) => r = bI (isCellX xc xr)) (fun (u : Unit) t => wq D A (X) t) A) 0 0 A := by
  refine Met.ofW (cc := cX9_isCell) (maxL := 2) (ret := (some .boolean)) (by decide) rfl ?_
  intro p e s m args below meth c s₁ B hml hv
  obtain ⟨rfl, hsz9, hP, hK, hD, hN⟩ := hv
  have hx := B.exec
  have hb := B.bytes
  have hr := B.returns
  have hts := atoms_spec (ws := wsX9_isCell) B.pre
  have hown : s.vm.findClass RX9 = some m.cls := findClass_of_methodNamed B.named
  have hlocks := B.notSynchronized
  have CF : CallFix p m c cX9_isCell 2 s _ wsX9_isCell RX9 := ⟨hx, hb, hml, hown, hts⟩
  have hA : ∀ q : Nat, s.heap.size ≤ q → A q := hsz9
  have hS : va_S A s.heap s.heap [] := va_S.rf
  have hl := lv_entry ([.int xc, .int xr]) (n := 2) (Nat.le_of_ble_eq_true rfl)
  rw [lg_entry_eq]
  generalize (lg_sl ([.int xc, .int xr]) ++ List.replicate (2 - (lg_sl ([.int xc, .int xr])).length) Slot.unset).toArray = ls at hl ⊢
  have hl : lv_has ls 2 [(0, .int xc), (1, .int xr)] := hl
  show W p l e ({ frames := 1, cells := 0, slots := 0, locals := 22 } : Room) s m (([.int xc, .int xr] : List Value).toArray) below meth c s.heap [] 0 0 (MQ below (va_Qi (fun (r : Int32) (u : Unit) => r = bI (isCellX xc xr)) (fun (u : Unit) t => wq D A (X) t) A) (([.int xc, .int xr] : List Value).toArray) s 0 0 A) (F0 m 0 ls [])
  refine lv_iload_n hx hb dX9_isCell_0 rfl (lv_at hl 0 rfl) ?_
  refine lv_iconst (v := 0) hx hb dX9_isCell_1 (by decide) ?_
  refine lv_bipush (v := 19) hx hb dX9_isCell_2 (by decide) ?_
  refine cS_i CF hK hN hA hS (cut_of 0 [] hP hD rfl rfl rfl) (n_in l D cI cZ cW cJ A (X) xc 0 19) (va_cwS 3 hts gX9_isCell_X9_in rfl rfl rfl (by decide +kernel) ⟨Nat.le_of_ble_eq_true rfl, Nat.le_of_ble_eq_true rfl⟩) (As := [.int xc, .int 0, .int 19]) (rest := []) rfl hl.1 rfl (Nat.le_of_ble_eq_true rfl) dX9_isCell_4 ⟨Nat.le_of_ble_eq_true rfl, Nat.le_of_ble_eq_true rfl⟩ (fun r_4 _ H locs hq hP hD hS => ?_)
  have hq : r_4 = bI (inX xc 0 19) := hq
  subst hq
  have hP : va_P D vwCl (X) H := pm_P hP 0 [] rfl
  have hD : va_D A (X) := pm_D hD 0 [] rfl rfl rfl
  refine lv_if_eq (tgt := 24) hx hb dX9_isCell_7 (by decide) (fun c_7 => ?_) (fun c_7 => ?_)
  · refine lv_iconst (v := 0) hx hb dX9_isCell_24 (by decide) ?_
    exact W.zret (v := 0) (ty := .boolean) hx hb hr (rfl) (fun t9 ht9 hW9 => ⟨⟨0, (), rfl, by rw [cell_in, bf_c c_7]; rfl, by rw [ht9]; exact hP, hD⟩, hS.F ht9⟩) hS.2.2 dX9_isCell_25
  · refine lv_iload_n hx hb dX9_isCell_10 rfl (lv_at hl 1 rfl) ?_
    refine lv_iconst (v := 0) hx hb dX9_isCell_11 (by decide) ?_
    refine lv_bipush (v := 9) hx hb dX9_isCell_12 (by decide) ?_
    refine cS_i CF hK hN hA hS (cut_of 0 [] hP hD rfl rfl rfl) (n_in l D cI cZ cW cJ A (X) xr 0 9) (va_cwS 3 hts gX9_isCell_X9_in rfl rfl rfl (by decide +kernel) ⟨Nat.le_of_ble_eq_true rfl, Nat.le_of_ble_eq_true rfl⟩) (As := [.int xr, .int 0, .int 9]) (rest := []) rfl hl.1 rfl (Nat.le_of_ble_eq_true rfl) dX9_isCell_14 ⟨Nat.le_of_ble_eq_true rfl, Nat.le_of_ble_eq_true rfl⟩ (fun r_14 _ H locs hq hP hD hS => ?_)
    have hq : r_14 = bI (inX xr 0 9) := hq
    subst hq
    have hP : va_P D vwCl (X) H := pm_P hP 0 [] rfl
    have hD : va_D A (X) := pm_D hD 0 [] rfl rfl rfl
    refine lv_if_eq (tgt := 24) hx hb dX9_isCell_17 (by decide) (fun c_17 => ?_) (fun c_17 => ?_)
    · refine lv_iconst (v := 0) hx hb dX9_isCell_24 (by decide) ?_
      exact W.zret (v := 0) (ty := .boolean) hx hb hr (rfl) (fun t9 ht9 hW9 => ⟨⟨0, (), rfl, by rw [cell_in, bt_c c_7, bf_c c_17]; rfl, by rw [ht9]; exact hP, hD⟩, hS.F ht9⟩) hS.2.2 dX9_isCell_25
    · refine lv_iconst (v := 1) hx hb dX9_isCell_20 (by decide) ?_
      refine lv_goto (tgt := 25) hx hb dX9_isCell_21 (by decide) ?_
      exact W.zret (v := 1) (ty := .boolean) hx hb hr (rfl) (fun t9 ht9 hW9 => ⟨⟨1, (), rfl, by rw [cell_in, bt_c c_7, bt_c c_17]; rfl, by rw [ht9]; exact hP, hD⟩, hS.F ht9⟩) hS.2.2 dX9_isCell_25
set_option maxHeartbeats 4000000 in
set_option maxRecDepth 100000 in
theorem n_isSide (l : Launch) (D : va_G) (cI cZ cW cJ : ClassId) (A : Nat → Prop) (X : va_W) (xd : Int32) : Met l yX9_isSide wsX9_isSide ({ frames := 0, cells := 0, slots := 0, locals := 0 }) (va_Pc [.int xd] (wd D (tyL cI cZ cW cJ) A (X))) (va_Qi (fun (r : Int32) (u : Unit) => r = bI (isSideX xd)) (fun (u : Unit) t => wq D A (X) t) A) 0 0 A := by
  refine Met.ofW (cc := cX9_isSide) (maxL := 1) (ret := (some .boolean)) (by decide) rfl ?_
  intro p e s m args below meth c s₁ B hml hv
  obtain ⟨rfl, hsz9, hP, hK, hD, hN⟩ := hv
  have hx := B.exec
  have hb := B.bytes
  have hr := B.returns
  have hts := atoms_spec (ws := wsX9_isSide) B.pre
  have hown : s.vm.findClass RX9 = some m.cls := findClass_of_methodNamed B.named
  have hlocks := B.notSynchronized
  have CF : CallFix p m c cX9_isSide 1 s _ wsX9_isSide RX9 := ⟨hx, hb, hml, hown, hts⟩
  have hA : ∀ q : Nat, s.heap.size ≤ q → A q := hsz9
  have hS : va_S A s.heap s.heap [] := va_S.rf
  have hl := lv_entry ([.int xd]) (n := 1) (Nat.le_of_ble_eq_true rfl)
  rw [lg_entry_eq]
  generalize (lg_sl ([.int xd]) ++ List.replicate (1 - (lg_sl ([.int xd])).length) Slot.unset).toArray = ls at hl ⊢
  have hl : lv_has ls 1 [(0, .int xd)] := hl
  show W p l e ({ frames := 0, cells := 0, slots := 0, locals := 0 } : Room) s m (([.int xd] : List Value).toArray) below meth c s.heap [] 0 0 (MQ below (va_Qi (fun (r : Int32) (u : Unit) => r = bI (isSideX xd)) (fun (u : Unit) t => wq D A (X) t) A) (([.int xd] : List Value).toArray) s 0 0 A) (F0 m 0 ls [])
  refine lv_iload_n hx hb dX9_isSide_0 rfl (lv_at hl 0 rfl) ?_
  refine lv_iconst (v := 1) hx hb dX9_isSide_1 (by decide) ?_
  refine lv_icmp_eq (tgt := 10) hx hb dX9_isSide_2 (by decide) (fun c_2 => ?_) (fun c_2 => ?_)
  · refine lv_iconst (v := 1) hx hb dX9_isSide_10 (by decide) ?_
    refine lv_goto (tgt := 15) hx hb dX9_isSide_11 (by decide) ?_
    exact W.zret (v := 1) (ty := .boolean) hx hb hr (rfl) (fun t9 ht9 hW9 => ⟨⟨1, (), rfl, by simp [bI, isSideX, c_2], by rw [ht9]; exact hP, hD⟩, hS.F ht9⟩) hS.2.2 dX9_isSide_15
  · refine lv_iload_n hx hb dX9_isSide_5 rfl (lv_at hl 0 rfl) ?_
    refine lv_iconst (v := (-1)) hx hb dX9_isSide_6 (by decide) ?_
    refine lv_icmp_ne (tgt := 14) hx hb dX9_isSide_7 (by decide) (fun c_7 => ?_) (fun c_7 => ?_)
    · refine lv_iconst (v := 0) hx hb dX9_isSide_14 (by decide) ?_
      exact W.zret (v := 0) (ty := .boolean) hx hb hr (rfl) (fun t9 ht9 hW9 => ⟨⟨0, (), rfl, by simp [bI, isSideX, c_2, c_7], by rw [ht9]; exact hP, hD⟩, hS.F ht9⟩) hS.2.2 dX9_isSide_15
    · refine lv_iconst (v := 1) hx hb dX9_isSide_10 (by decide) ?_
      refine lv_goto (tgt := 15) hx hb dX9_isSide_11 (by decide) ?_
      exact W.zret (v := 1) (ty := .boolean) hx hb hr (rfl) (fun t9 ht9 hW9 => ⟨⟨1, (), rfl, by simp [bI, isSideX, c_2, c_7], by rw [ht9]; exact hP, hD⟩, hS.F ht9⟩) hS.2.2 dX9_isSide_15
set_option maxHeartbeats 4000000 in
set_option maxRecDepth 100000 in
theorem n_isSlot (l : Launch) (D : va_G) (cI cZ cW cJ : ClassId) (A : Nat → Prop) (X : va_W) (xs : Int32) : Met l yX9_isSlot wsX9_isSlot ({ frames := 1, cells := 0, slots := 0, locals := 22 }) (va_Pc [.int xs] (wd D (tyL cI cZ cW cJ) A (X))) (va_Qi (fun (r : Int32) (u : Unit) => r = bI (isSlotX xs)) (fun (u : Unit) t => wq D A (X) t) A) 0 0 A := by
  refine Met.ofW (cc := cX9_isSlot) (maxL := 1) (ret := (some .boolean)) (by decide) rfl ?_
  intro p e s m args below meth c s₁ B hml hv
  obtain ⟨rfl, hsz9, hP, hK, hD, hN⟩ := hv
  have hx := B.exec
  have hb := B.bytes
  have hr := B.returns
  have hts := atoms_spec (ws := wsX9_isSlot) B.pre
  have hown : s.vm.findClass RX9 = some m.cls := findClass_of_methodNamed B.named
  have hlocks := B.notSynchronized
  have CF : CallFix p m c cX9_isSlot 1 s _ wsX9_isSlot RX9 := ⟨hx, hb, hml, hown, hts⟩
  have hA : ∀ q : Nat, s.heap.size ≤ q → A q := hsz9
  have hS : va_S A s.heap s.heap [] := va_S.rf
  have hl := lv_entry ([.int xs]) (n := 1) (Nat.le_of_ble_eq_true rfl)
  rw [lg_entry_eq]
  generalize (lg_sl ([.int xs]) ++ List.replicate (1 - (lg_sl ([.int xs])).length) Slot.unset).toArray = ls at hl ⊢
  have hl : lv_has ls 1 [(0, .int xs)] := hl
  show W p l e ({ frames := 1, cells := 0, slots := 0, locals := 22 } : Room) s m (([.int xs] : List Value).toArray) below meth c s.heap [] 0 0 (MQ below (va_Qi (fun (r : Int32) (u : Unit) => r = bI (isSlotX xs)) (fun (u : Unit) t => wq D A (X) t) A) (([.int xs] : List Value).toArray) s 0 0 A) (F0 m 0 ls [])
  refine lv_iload_n hx hb dX9_isSlot_0 rfl (lv_at hl 0 rfl) ?_
  refine lv_iconst (v := 0) hx hb dX9_isSlot_1 (by decide) ?_
  refine lv_iconst (v := 1) hx hb dX9_isSlot_2 (by decide) ?_
  refine cS_i CF hK hN hA hS (cut_of 0 [] hP hD rfl rfl rfl) (n_in l D cI cZ cW cJ A (X) xs 0 1) (va_cwS 3 hts gX9_isSlot_X9_in rfl rfl rfl (by decide +kernel) ⟨Nat.le_of_ble_eq_true rfl, Nat.le_of_ble_eq_true rfl⟩) (As := [.int xs, .int 0, .int 1]) (rest := []) rfl hl.1 rfl (Nat.le_of_ble_eq_true rfl) dX9_isSlot_3 ⟨Nat.le_of_ble_eq_true rfl, Nat.le_of_ble_eq_true rfl⟩ (fun r_3 _ H locs hq hP hD hS => ?_)
  have hq : r_3 = bI (inX xs 0 1) := hq
  subst hq
  have hP : va_P D vwCl (X) H := pm_P hP 0 [] rfl
  have hD : va_D A (X) := pm_D hD 0 [] rfl rfl rfl
  exact W.zret (v := (bI (inX xs 0 1))) (ty := .boolean) hx hb hr (bI_n _) (fun t9 ht9 hW9 => ⟨⟨(bI (inX xs 0 1)), (), rfl, by rw [slot_in], by rw [ht9]; exact hP, hD⟩, hS.F ht9⟩) hS.2.2 dX9_isSlot_6
set_option maxHeartbeats 4000000 in
set_option maxRecDepth 100000 in
theorem n_thrown (l : Launch) (D : va_G) (cI cZ cW cJ : ClassId) (A : Nat → Prop) (X : va_W) (mo zs zv zl zk zt zg zi zw zo ze zd : Nat) (vn vl vh vg vc vr vt vo vp va vb vd vq : Int32) (vm : Bool) (vz : Int64) : Met l yX9_thrown wsX9_thrown ({ frames := 0, cells := 0, slots := 0, locals := 0 }) (va_Pc [.ref mo] (wd D (tyL cI cZ cW cJ) A (oX9 mo zs zv vn zl zk zt vl vh zg zi zw vg zo ze vc vr vt vo (bI vm) vp va vb vd vq zd vz :: X))) (va_Qi (fun (r : Int32) (u : Unit) => r = vh) (fun (u : Unit) t => wq D A (oX9 mo zs zv vn zl zk zt vl vh zg zi zw vg zo ze vc vr vt vo (bI vm) vp va vb vd vq zd vz :: X) t) A) 0 0 A := by
  refine Met.ofW (cc := cX9_thrown) (maxL := 1) (ret := (some .int)) (by decide) rfl ?_
  intro p e s m args below meth c s₁ B hml hv
  obtain ⟨rfl, hsz9, hP, hK, hD, hN⟩ := hv
  have hx := B.exec
  have hb := B.bytes
  have hr := B.returns
  have hts := atoms_spec (ws := wsX9_thrown) B.pre
  have hown : s.vm.findClass RX9 = some m.cls := findClass_of_methodNamed B.named
  have hlocks := B.notSynchronized
  have CF : CallFix p m c cX9_thrown 1 s _ wsX9_thrown RX9 := ⟨hx, hb, hml, hown, hts⟩
  have hA : ∀ q : Nat, s.heap.size ≤ q → A q := hsz9
  have hS : va_S A s.heap s.heap [] := va_S.rf
  have hiX9 : ∀ w ∈ u_ws RX9 TX9 26, w ∈ wsX9_thrown := fun _ h => List.mem_cons_of_mem _ (List.mem_append_right _ (h))
  have hl := lv_entry ([.ref mo]) (n := 1) (Nat.le_of_ble_eq_true rfl)
  rw [lg_entry_eq]
  generalize (lg_sl ([.ref mo]) ++ List.replicate (1 - (lg_sl ([.ref mo])).length) Slot.unset).toArray = ls at hl ⊢
  have hl : lv_has ls 1 [(0, .ref mo)] := hl
  show W p l e ({ frames := 0, cells := 0, slots := 0, locals := 0 } : Room) s m (([.ref mo] : List Value).toArray) below meth c s.heap [] 0 0 (MQ below (va_Qi (fun (r : Int32) (u : Unit) => r = vh) (fun (u : Unit) t => wq D A (oX9 mo zs zv vn zl zk zt vl vh zg zi zw vg zo ze vc vr vt vo (bI vm) vp va vb vd vq zd vz :: X) t) A) (([.ref mo] : List Value).toArray) s 0 0 A) (F0 m 0 ls [])
  refine lv_aload_n hx hb dX9_thrown_0 rfl (lv_at hl 0 rfl) ?_
  refine va_get (D := D) (ci := 9) (v := .int vh) (C := RX9) (T := TX9) (N := 26) hx hb hts hiX9 hown hK hP 0 rfl rfl 7 (by decide) (hts (.fieldLink RX9 44 "LedgeLeapsModel" "thrown" "I") (List.mem_of_getElem? (i := 1) rfl)) (fun _ h9 => h9) rfl dX9_thrown_1 ?_
  exact W.iret (v := vh) hx hb hr (fun t9 ht9 hW9 => ⟨⟨vh, (), rfl, rfl, by rw [ht9]; exact hP, hD⟩, hS.F ht9⟩) hS.2.2 dX9_thrown_4
set_option maxHeartbeats 4000000 in
set_option maxRecDepth 100000 in
theorem n_holds (l : Launch) (D : va_G) (cI cZ cW cJ : ClassId) (A : Nat → Prop) (X : va_W) (mo zs zv zl zk zt zg zi zw zo ze zd : Nat) (vn vl vh vg vc vr vt vo vp va vb vd vq : Int32) (vm : Bool) (vz : Int64) (xw : Int32) : Met l yX9_holds wsX9_holds ({ frames := 0, cells := 0, slots := 0, locals := 0 }) (va_Pc [.ref mo, .int xw] (wd D (tyL cI cZ cW cJ) A (oX9 mo zs zv vn zl zk zt vl vh zg zi zw vg zo ze vc vr vt vo (bI vm) vp va vb vd vq zd vz :: X))) (va_Qi (fun (r : Int32) (u : Unit) => r = bI (decide (xw = 0))) (fun (u : Unit) t => wq D A (oX9 mo zs zv vn zl zk zt vl xw zg zi zw vg zo ze vc vr vt vo (bI vm) vp va vb vd vq zd vz :: X) t) A) 0 0 A := by
  refine Met.ofW (cc := cX9_holds) (maxL := 2) (ret := (some .boolean)) (by decide) rfl ?_
  intro p e s m args below meth c s₁ B hml hv
  obtain ⟨rfl, hsz9, hP, hK, hD, hN⟩ := hv
  have hx := B.exec
  have hb := B.bytes
  have hr := B.returns
  have hts := atoms_spec (ws := wsX9_holds) B.pre
  have hown : s.vm.findClass RX9 = some m.cls := findClass_of_methodNamed B.named
  have hlocks := B.notSynchronized
  have CF : CallFix p m c cX9_holds 2 s _ wsX9_holds RX9 := ⟨hx, hb, hml, hown, hts⟩
  have hA : ∀ q : Nat, s.heap.size ≤ q → A q := hsz9
  have hS : va_S A s.heap s.heap [] := va_S.rf
  have hiX9 : ∀ w ∈ u_ws RX9 TX9 26, w ∈ wsX9_holds := fun _ h => List.mem_cons_of_mem _ (List.mem_append_right _ (h))
  have hl := lv_entry ([.ref mo, .int xw]) (n := 2) (Nat.le_of_ble_eq_true rfl)
  rw [lg_entry_eq]
  generalize (lg_sl ([.ref mo, .int xw]) ++ List.replicate (2 - (lg_sl ([.ref mo, .int xw])).length) Slot.unset).toArray = ls at hl ⊢
  have hl : lv_has ls 2 [(0, .ref mo), (1, .int xw)] := hl
  show W p l e ({ frames := 0, cells := 0, slots := 0, locals := 0 } : Room) s m (([.ref mo, .int xw] : List Value).toArray) below meth c s.heap [] 0 0 (MQ below (va_Qi (fun (r : Int32) (u : Unit) => r = bI (decide (xw = 0))) (fun (u : Unit) t => wq D A (oX9 mo zs zv vn zl zk zt vl xw zg zi zw vg zo ze vc vr vt vo (bI vm) vp va vb vd vq zd vz :: X) t) A) (([.ref mo, .int xw] : List Value).toArray) s 0 0 A) (F0 m 0 ls [])
  refine lv_aload_n hx hb dX9_holds_0 rfl (lv_at hl 0 rfl) ?_
  refine lv_iload_n hx hb dX9_holds_1 rfl (lv_at hl 1 rfl) ?_
  refine va_put (D := D) (ci := 9) (v := .int xw) (ty := .int) (C := RX9) (T := TX9) (N := 26) hx hb hts hiX9 tyX9 tyX9_ok nmX9 hown hK hP hD hS 0 rfl rfl 7 (by decide) (hts (.fieldLink RX9 44 "LedgeLeapsModel" "thrown" "I") (List.mem_of_getElem? (i := 1) rfl)) (fun _ h9 => h9) rfl (by decide +kernel) rfl rfl (Nat.le_of_ble_eq_true rfl) dX9_holds_2 (fun H locs hP hD hS => ?_)
  have hP : va_P D vwCl (oX9 mo zs zv vn zl zk zt vl xw zg zi zw vg zo ze vc vr vt vo (bI vm) vp va vb vd vq zd vz :: X) H := hP
  have hD : va_D A (oX9 mo zs zv vn zl zk zt vl xw zg zi zw vg zo ze vc vr vt vo (bI vm) vp va vb vd vq zd vz :: X) := hD
  refine lv_iload_n hx hb dX9_holds_5 rfl (lv_at hl 1 rfl) ?_
  refine lv_if_ne (tgt := 13) hx hb dX9_holds_6 (by decide) (fun c_6 => ?_) (fun c_6 => ?_)
  · refine lv_iconst (v := 0) hx hb dX9_holds_13 (by decide) ?_
    exact W.zret (v := 0) (ty := .boolean) hx hb hr (rfl) (fun t9 ht9 hW9 => ⟨⟨0, (), rfl, by simp [bI, c_6], by rw [ht9]; exact hP, hD⟩, hS.F ht9⟩) hS.2.2 dX9_holds_14
  · refine lv_iconst (v := 1) hx hb dX9_holds_9 (by decide) ?_
    refine lv_goto (tgt := 14) hx hb dX9_holds_10 (by decide) ?_
    exact W.zret (v := 1) (ty := .boolean) hx hb hr (rfl) (fun t9 ht9 hW9 => ⟨⟨1, (), rfl, by simp [bI, c_6], by rw [ht9]; exact hP, hD⟩, hS.F ht9⟩) hS.2.2 dX9_holds_14
set_option maxHeartbeats 4000000 in
set_option maxRecDepth 100000 in
theorem n_isBlock (l : Launch) (D : va_G) (cI cZ cW cJ : ClassId) (A : Nat → Prop) (X : va_W) (mo zs zv zl zk zt zg zi zw zo ze zd : Nat) (vn vl vh vg vc vr vt vo vp va vb vd vq : Int32) (vm : Bool) (vz : Int64) (gs : Nat → Int32) (S : KS) (xc xr : Int32) (hS0 : AbsM S gs) : Met l yX9_isBlock wsX9_isBlock ({ frames := 2, cells := 0, slots := 0, locals := 43 }) (va_Pc [.ref mo, .int xc, .int xr] (wd D (tyL cI cZ cW cJ) A (oX9 mo zs zv vn zl zk zt vl vh zg zi zw vg zo ze vc vr vt vo (bI vm) vp va vb vd vq zd vz :: aI cI zs 28 gs :: X))) (va_Qi (fun (r : Int32) (u : Unit) => r = bI (Bk S.1 xc xr)) (fun (u : Unit) t => wq D A (oX9 mo zs zv vn zl zk zt vl vh zg zi zw vg zo ze vc vr vt vo (bI vm) vp va vb vd vq zd vz :: aI cI zs 28 gs :: X) t) A) 0 0 A := by
  refine Met.ofW (cc := cX9_isBlock) (maxL := 3) (ret := (some .boolean)) (by decide) rfl ?_
  intro p e s m args below meth c s₁ B hml hv
  obtain ⟨rfl, hsz9, hP, hK, hD, hN⟩ := hv
  have hx := B.exec
  have hb := B.bytes
  have hr := B.returns
  have hts := atoms_spec (ws := wsX9_isBlock) B.pre
  have hown : s.vm.findClass RX9 = some m.cls := findClass_of_methodNamed B.named
  have hlocks := B.notSynchronized
  have CF : CallFix p m c cX9_isBlock 3 s _ wsX9_isBlock RX9 := ⟨hx, hb, hml, hown, hts⟩
  have hA : ∀ q : Nat, s.heap.size ≤ q → A q := hsz9
  have hS : va_S A s.heap s.heap [] := va_S.rf
  have hiX9 : ∀ w ∈ u_ws RX9 TX9 26, w ∈ wsX9_isBlock := fun _ h => List.mem_cons_of_mem _ (List.mem_append_right _ (h))
  have hl := lv_entry ([.ref mo, .int xc, .int xr]) (n := 3) (Nat.le_of_ble_eq_true rfl)
  rw [lg_entry_eq]
  generalize (lg_sl ([.ref mo, .int xc, .int xr]) ++ List.replicate (3 - (lg_sl ([.ref mo, .int xc, .int xr])).length) Slot.unset).toArray = ls at hl ⊢
  have hl : lv_has ls 3 [(0, .ref mo), (1, .int xc), (2, .int xr)] := hl
  show W p l e ({ frames := 2, cells := 0, slots := 0, locals := 43 } : Room) s m (([.ref mo, .int xc, .int xr] : List Value).toArray) below meth c s.heap [] 0 0 (MQ below (va_Qi (fun (r : Int32) (u : Unit) => r = bI (Bk S.1 xc xr)) (fun (u : Unit) t => wq D A (oX9 mo zs zv vn zl zk zt vl vh zg zi zw vg zo ze vc vr vt vo (bI vm) vp va vb vd vq zd vz :: aI cI zs 28 gs :: X) t) A) (([.ref mo, .int xc, .int xr] : List Value).toArray) s 0 0 A) (F0 m 0 ls [])
  refine lv_iload_n hx hb dX9_isBlock_0 rfl (lv_at hl 1 rfl) ?_
  refine lv_iload_n hx hb dX9_isBlock_1 rfl (lv_at hl 2 rfl) ?_
  refine cS_i CF hK hN hA hS (cut_of 2 [0, 1] hP hD rfl rfl rfl) (n_isCell l D cI cZ cW cJ A (oX9 mo zs zv vn zl zk zt vl vh zg zi zw vg zo ze vc vr vt vo (bI vm) vp va vb vd vq zd vz :: aI cI zs 28 gs :: X) xc xr) (va_cwS 2 hts gX9_isBlock_X9_isCell rfl rfl rfl (by decide +kernel) ⟨Nat.le_of_ble_eq_true rfl, Nat.le_of_ble_eq_true rfl⟩) (As := [.int xc, .int xr]) (rest := []) rfl hl.1 rfl (Nat.le_of_ble_eq_true rfl) dX9_isBlock_2 ⟨Nat.le_of_ble_eq_true rfl, Nat.le_of_ble_eq_true rfl⟩ (fun r_2 _ H locs hq hP hD hS => ?_)
  have hq : r_2 = bI (isCellX xc xr) := hq
  subst hq
  have hP : va_P D vwCl (oX9 mo zs zv vn zl zk zt vl vh zg zi zw vg zo ze vc vr vt vo (bI vm) vp va vb vd vq zd vz :: aI cI zs 28 gs :: X) H := pm_P hP 2 [0, 1] rfl
  have hD : va_D A (oX9 mo zs zv vn zl zk zt vl vh zg zi zw vg zo ze vc vr vt vo (bI vm) vp va vb vd vq zd vz :: aI cI zs 28 gs :: X) := pm_D hD 2 [0, 1] rfl rfl rfl
  refine lv_if_eq (tgt := 24) hx hb dX9_isBlock_5 (by decide) (fun c_5 => ?_) (fun c_5 => ?_)
  · refine lv_iconst (v := 1) hx hb dX9_isBlock_24 (by decide) ?_
    refine lv_goto (tgt := 29) hx hb dX9_isBlock_25 (by decide) ?_
    exact W.zret (v := 1) (ty := .boolean) hx hb hr (rfl) (fun t9 ht9 hW9 => ⟨⟨1, (), rfl, by rw [Bk_out (bf_c c_5)]; rfl, by rw [ht9]; exact hP, hD⟩, hS.F ht9⟩) hS.2.2 dX9_isBlock_29
  · obtain ⟨i9, j9, hi9, hj9, e1, e2⟩ := isCell_nI (bt_c c_5)
    refine lv_aload_n hx hb dX9_isBlock_8 rfl (lv_at hl 0 rfl) ?_
    refine va_get (D := D) (ci := 9) (v := .ref zs) (C := RX9) (T := TX9) (N := 26) hx hb hts hiX9 hown hK hP 0 rfl rfl 0 (by decide) (hts (.fieldLink RX9 7 "LedgeLeapsModel" "s" "[I") (List.mem_of_getElem? (i := 1) rfl)) (fun _ h9 => h9) rfl dX9_isBlock_9 ?_
    refine lv_iconst (v := 0) hx hb dX9_isBlock_12 (by decide) ?_
    refine lv_iload_n hx hb dX9_isBlock_13 rfl (lv_at hl 1 rfl) ?_
    refine lv_iadd hx hb dX9_isBlock_14 ?_
    refine top_i (y := (nI i9)) (by rw [e1]; exact z_add i9) ?_
    refine va_iald hx hb hK hP 1 0 rfl rfl (vp_ix (e := i9) (rfl) (by omega) (by decide)) dX9_isBlock_15 ?_
    refine top_i (y := (gs i9)) (ld_ix (f := gs) (x := (nI i9)) (e := i9) (n := 28) (rfl) (by omega) (by decide)) ?_
    refine lv_iload_n hx hb dX9_isBlock_16 rfl (lv_at hl 2 rfl) ?_
    refine top_i (y := (nI j9)) e2 ?_
    refine lv_ishr hx hb dX9_isBlock_17 ?_
    refine lv_iconst (v := 1) hx hb dX9_isBlock_18 (by decide) ?_
    refine lv_iand hx hb dX9_isBlock_19 ?_
    refine lv_iconst (v := 1) hx hb dX9_isBlock_20 (by decide) ?_
    refine lv_icmp_ne (tgt := 28) hx hb dX9_isBlock_21 (by decide) (fun c_21 => ?_) (fun c_21 => ?_)
    · refine lv_iconst (v := 0) hx hb dX9_isBlock_28 (by decide) ?_
      exact W.zret (v := 0) (ty := .boolean) hx hb hr (rfl) (fun t9 ht9 hW9 => ⟨⟨0, (), rfl, (bk_f hS0 hi9 hj9 e1 e2 c_21).symm, by rw [ht9]; exact hP, hD⟩, hS.F ht9⟩) hS.2.2 dX9_isBlock_29
    · refine lv_iconst (v := 1) hx hb dX9_isBlock_24 (by decide) ?_
      refine lv_goto (tgt := 29) hx hb dX9_isBlock_25 (by decide) ?_
      exact W.zret (v := 1) (ty := .boolean) hx hb hr (rfl) (fun t9 ht9 hW9 => ⟨⟨1, (), rfl, (bk_t hS0 hi9 hj9 e1 e2 c_21).symm, by rw [ht9]; exact hP, hD⟩, hS.F ht9⟩) hS.2.2 dX9_isBlock_29
set_option maxHeartbeats 4000000 in
set_option maxRecDepth 100000 in
theorem n_canStand (l : Launch) (D : va_G) (cI cZ cW cJ : ClassId) (A : Nat → Prop) (X : va_W) (mo zs zv zl zk zt zg zi zw zo ze zd : Nat) (vn vl vh vg vc vr vt vo vp va vb vd vq : Int32) (vm : Bool) (vz : Int64) (gs : Nat → Int32) (S : KS) (xc xr : Int32) (hS0 : AbsM S gs) : Met l yX9_canStand wsX9_canStand ({ frames := 3, cells := 0, slots := 0, locals := 65 }) (va_Pc [.ref mo, .int xc, .int xr] (wd D (tyL cI cZ cW cJ) A (oX9 mo zs zv vn zl zk zt vl vh zg zi zw vg zo ze vc vr vt vo (bI vm) vp va vb vd vq zd vz :: aI cI zs 28 gs :: X))) (va_Qi (fun (r : Int32) (u : Unit) => r = bI (stB (Bk S.1) xc xr)) (fun (u : Unit) t => wq D A (oX9 mo zs zv vn zl zk zt vl vh zg zi zw vg zo ze vc vr vt vo (bI vm) vp va vb vd vq zd vz :: aI cI zs 28 gs :: X) t) A) 0 0 A := by
  refine Met.ofW (cc := cX9_canStand) (maxL := 3) (ret := (some .boolean)) (by decide) rfl ?_
  intro p e s m args below meth c s₁ B hml hv
  obtain ⟨rfl, hsz9, hP, hK, hD, hN⟩ := hv
  have hx := B.exec
  have hb := B.bytes
  have hr := B.returns
  have hts := atoms_spec (ws := wsX9_canStand) B.pre
  have hown : s.vm.findClass RX9 = some m.cls := findClass_of_methodNamed B.named
  have hlocks := B.notSynchronized
  have CF : CallFix p m c cX9_canStand 3 s _ wsX9_canStand RX9 := ⟨hx, hb, hml, hown, hts⟩
  have hA : ∀ q : Nat, s.heap.size ≤ q → A q := hsz9
  have hS : va_S A s.heap s.heap [] := va_S.rf
  have hl := lv_entry ([.ref mo, .int xc, .int xr]) (n := 3) (Nat.le_of_ble_eq_true rfl)
  rw [lg_entry_eq]
  generalize (lg_sl ([.ref mo, .int xc, .int xr]) ++ List.replicate (3 - (lg_sl ([.ref mo, .int xc, .int xr])).length) Slot.unset).toArray = ls at hl ⊢
  have hl : lv_has ls 3 [(0, .ref mo), (1, .int xc), (2, .int xr)] := hl
  show W p l e ({ frames := 3, cells := 0, slots := 0, locals := 65 } : Room) s m (([.ref mo, .int xc, .int xr] : List Value).toArray) below meth c s.heap [] 0 0 (MQ below (va_Qi (fun (r : Int32) (u : Unit) => r = bI (stB (Bk S.1) xc xr)) (fun (u : Unit) t => wq D A (oX9 mo zs zv vn zl zk zt vl vh zg zi zw vg zo ze vc vr vt vo (bI vm) vp va vb vd vq zd vz :: aI cI zs 28 gs :: X) t) A) (([.ref mo, .int xc, .int xr] : List Value).toArray) s 0 0 A) (F0 m 0 ls [])
  refine lv_aload_n hx hb dX9_canStand_0 rfl (lv_at hl 0 rfl) ?_
  refine lv_iload_n hx hb dX9_canStand_1 rfl (lv_at hl 1 rfl) ?_
  refine lv_iload_n hx hb dX9_canStand_2 rfl (lv_at hl 2 rfl) ?_
  refine cV_i CF hK hN hA hS (cut_of 2 [0, 1] hP hD rfl rfl rfl) (n_isBlock l D cI cZ cW cJ A (X) mo zs zv zl zk zt zg zi zw zo ze zd vn vl vh vg vc vr vt vo vp va vb vd vq vm vz gs S xc xr hS0) (cwV 2 hts gX9_canStand_X9_isBlock rfl rfl rfl (by decide +kernel) ⟨Nat.le_of_ble_eq_true rfl, Nat.le_of_ble_eq_true rfl⟩) (As := [.int xc, .int xr]) (rest := []) (ci := 9) (q0 := 0) rfl rfl rfl hl.1 rfl (Nat.le_of_ble_eq_true rfl) dX9_canStand_3 ⟨Nat.le_of_ble_eq_true rfl, Nat.le_of_ble_eq_true rfl⟩ (fun r_3 _ H locs hq hP hD hS => ?_)
  have hq : r_3 = bI (Bk S.1 xc xr) := hq
  subst hq
  have hP : va_P D vwCl (oX9 mo zs zv vn zl zk zt vl vh zg zi zw vg zo ze vc vr vt vo (bI vm) vp va vb vd vq zd vz :: aI cI zs 28 gs :: X) H := pm_P hP 2 [0, 1] rfl
  have hD : va_D A (oX9 mo zs zv vn zl zk zt vl vh zg zi zw vg zo ze vc vr vt vo (bI vm) vp va vb vd vq zd vz :: aI cI zs 28 gs :: X) := pm_D hD 2 [0, 1] rfl rfl rfl
  refine lv_if_ne (tgt := 24) hx hb dX9_canStand_6 (by decide) (fun c_6 => ?_) (fun c_6 => ?_)
  · refine lv_iconst (v := 0) hx hb dX9_canStand_24 (by decide) ?_
    exact W.zret (v := 0) (ty := .boolean) hx hb hr (rfl) (fun t9 ht9 hW9 => ⟨⟨0, (), rfl, by rw [stB, bt_c c_6]; rfl, by rw [ht9]; exact hP, hD⟩, hS.F ht9⟩) hS.2.2 dX9_canStand_25
  · refine lv_aload_n hx hb dX9_canStand_9 rfl (lv_at hl 0 rfl) ?_
    refine lv_iload_n hx hb dX9_canStand_10 rfl (lv_at hl 1 rfl) ?_
    refine lv_iload_n hx hb dX9_canStand_11 rfl (lv_at hl 2 rfl) ?_
    refine lv_iconst (v := 1) hx hb dX9_canStand_12 (by decide) ?_
    refine lv_isub hx hb dX9_canStand_13 ?_
    refine cV_i CF hK hN hA hS (cut_of 2 [0, 1] hP hD rfl rfl rfl) (n_isBlock l D cI cZ cW cJ A (X) mo zs zv zl zk zt zg zi zw zo ze zd vn vl vh vg vc vr vt vo vp va vb vd vq vm vz gs S xc (xr - 1) hS0) (cwV 2 hts gX9_canStand_X9_isBlock rfl rfl rfl (by decide +kernel) ⟨Nat.le_of_ble_eq_true rfl, Nat.le_of_ble_eq_true rfl⟩) (As := [.int xc, .int (xr - 1)]) (rest := []) (ci := 9) (q0 := 0) rfl rfl rfl hl.1 rfl (Nat.le_of_ble_eq_true rfl) dX9_canStand_14 ⟨Nat.le_of_ble_eq_true rfl, Nat.le_of_ble_eq_true rfl⟩ (fun r_14 _ H locs hq hP hD hS => ?_)
    have hq : r_14 = bI (Bk S.1 xc (xr - 1)) := hq
    subst hq
    have hP : va_P D vwCl (oX9 mo zs zv vn zl zk zt vl vh zg zi zw vg zo ze vc vr vt vo (bI vm) vp va vb vd vq zd vz :: aI cI zs 28 gs :: X) H := pm_P hP 2 [0, 1] rfl
    have hD : va_D A (oX9 mo zs zv vn zl zk zt vl vh zg zi zw vg zo ze vc vr vt vo (bI vm) vp va vb vd vq zd vz :: aI cI zs 28 gs :: X) := pm_D hD 2 [0, 1] rfl rfl rfl
    refine lv_if_eq (tgt := 24) hx hb dX9_canStand_17 (by decide) (fun c_17 => ?_) (fun c_17 => ?_)
    · refine lv_iconst (v := 0) hx hb dX9_canStand_24 (by decide) ?_
      exact W.zret (v := 0) (ty := .boolean) hx hb hr (rfl) (fun t9 ht9 hW9 => ⟨⟨0, (), rfl, by rw [stB, bf_c c_6, bf_c c_17]; rfl, by rw [ht9]; exact hP, hD⟩, hS.F ht9⟩) hS.2.2 dX9_canStand_25
    · refine lv_iconst (v := 1) hx hb dX9_canStand_20 (by decide) ?_
      refine lv_goto (tgt := 25) hx hb dX9_canStand_21 (by decide) ?_
      exact W.zret (v := 1) (ty := .boolean) hx hb hr (rfl) (fun t9 ht9 hW9 => ⟨⟨1, (), rfl, by rw [stB, bf_c c_6, bt_c c_17]; rfl, by rw [ht9]; exact hP, hD⟩, hS.F ht9⟩) hS.2.2 dX9_canStand_25
set_option maxHeartbeats 4000000 in
set_option maxRecDepth 100000 in
theorem n_copy (l : Launch) (D : va_G) (cI cZ cW cJ : ClassId) (A : Nat → Prop) (X : va_W) (ya yb na nb pa pb : Nat) (gf gt : Nat → Int32) (hpa : pa + 28 ≤ na) (hpb : pb + 28 ≤ nb) (hna : na < 2000) (hnb : nb < 2000) : Met l yX9_copy wsX9_copy ({ frames := 0, cells := 0, slots := 0, locals := 0 }) (va_Pc [.ref ya, .int (nI pa), .ref yb, .int (nI pb)] (wd D (tyL cI cZ cW cJ) A (aI cI ya na gf :: aI cI yb nb gt :: X))) (va_Qv (fun (u : Nat → Int32) => (∀ k, k < 28 → u (pb + k) = gf (pa + k)) ∧ ∀ j, (j < pb ∨ pb + 28 ≤ j) → u j = gt j) (fun (u : Nat → Int32) t => wq D A (aI cI ya na gf :: aI cI yb nb u :: X) t) A) 0 0 A := by
  refine Met.ofW (cc := cX9_copy) (maxL := 5) (ret := none) (by decide) rfl ?_
  intro p e s m args below meth c s₁ B hml hv
  obtain ⟨rfl, hsz9, hP, hK, hD, hN⟩ := hv
  have hx := B.exec
  have hb := B.bytes
  have hr := B.returns
  have hts := atoms_spec (ws := wsX9_copy) B.pre
  have hown : s.vm.findClass RX9 = some m.cls := findClass_of_methodNamed B.named
  have hlocks := B.notSynchronized
  have CF : CallFix p m c cX9_copy 5 s _ wsX9_copy RX9 := ⟨hx, hb, hml, hown, hts⟩
  have hA : ∀ q : Nat, s.heap.size ≤ q → A q := hsz9
  have hS : va_S A s.heap s.heap [] := va_S.rf
  have hl := lv_entry ([.ref ya, .int (nI pa), .ref yb, .int (nI pb)]) (n := 5) (Nat.le_of_ble_eq_true rfl)
  rw [lg_entry_eq]
  generalize (lg_sl ([.ref ya, .int (nI pa), .ref yb, .int (nI pb)]) ++ List.replicate (5 - (lg_sl ([.ref ya, .int (nI pa), .ref yb, .int (nI pb)])).length) Slot.unset).toArray = ls at hl ⊢
  have hl : lv_has ls 5 [(0, .ref ya), (1, .int (nI pa)), (2, .ref yb), (3, .int (nI pb))] := hl
  show W p l e ({ frames := 0, cells := 0, slots := 0, locals := 0 } : Room) s m (([.ref ya, .int (nI pa), .ref yb, .int (nI pb)] : List Value).toArray) below meth c s.heap [] 0 0 (MQ below (va_Qv (fun (u : Nat → Int32) => (∀ k, k < 28 → u (pb + k) = gf (pa + k)) ∧ ∀ j, (j < pb ∨ pb + 28 ≤ j) → u j = gt j) (fun (u : Nat → Int32) t => wq D A (aI cI ya na gf :: aI cI yb nb u :: X) t) A) (([.ref ya, .int (nI pa), .ref yb, .int (nI pb)] : List Value).toArray) s 0 0 A) (F0 m 0 ls [])
  refine lv_iconst (v := 0) hx hb dX9_copy_0 (by decide) ?_
  refine lv_istore (lv' := [(4, .int 0), (0, .ref ya), (1, .int (nI pa)), (2, .ref yb), (3, .int (nI pb))]) hx hb dX9_copy_1 hl (by decide) rfl (fun ls hl => ?_)
  have loop_3 : ∀ (nfu : Nat) (k : Nat) (h9 : Nat → Int32) (hn_3 : 28 - k < nfu) (hk : k ≤ 28) (hv : ∀ q, q < k → h9 (pb + q) = gf (pa + q)) (ho : ∀ j, (j < pb ∨ pb + 28 ≤ j) → h9 j = gt j) (H : Heap) (locs : List Loc) (hP : va_P D vwCl (aI cI ya na gf :: aI cI yb nb h9 :: X) H) (hD : va_D A (aI cI ya na gf :: aI cI yb nb h9 :: X)) (hS : va_S A s.heap H locs) (ls : Array Slot) (hl : lv_has ls 5 [(4, .int (nI k)), (0, .ref ya), (1, .int (nI pa)), (2, .ref yb), (3, .int (nI pb))]), W p l e ({ frames := 0, cells := 0, slots := 0, locals := 0 } : Room) s m (([.ref ya, .int (nI pa), .ref yb, .int (nI pb)] : List Value).toArray) below meth c H locs 0 0 (MQ below (va_Qv (fun (u : Nat → Int32) => (∀ k, k < 28 → u (pb + k) = gf (pa + k)) ∧ ∀ j, (j < pb ∨ pb + 28 ≤ j) → u j = gt j) (fun (u : Nat → Int32) t => wq D A (aI cI ya na gf :: aI cI yb nb u :: X) t) A) (([.ref ya, .int (nI pa), .ref yb, .int (nI pb)] : List Value).toArray) s 0 0 A) (F0 m 3 ls []) := by
    intro nfu
    induction nfu with
    | zero => intro k h9 hn_3; exact absurd hn_3 (Nat.not_lt_zero _)
    | succ nfu ih_3 =>
      intro k h9 hn_3 hk hv ho H locs hP hD hS ls hl
      refine lv_iload hx hb dX9_copy_3 (lv_at hl 0 rfl) ?_
      refine lv_bipush (v := 28) hx hb dX9_copy_5 (by decide) ?_
      refine lv_icmp_ge (tgt := 28) hx hb dX9_copy_7 (by decide) (fun c_7 => ?_) (fun c_7 => ?_)
      · exact W.vret hx hb hr (fun t9 ht9 hW9 => ⟨⟨h9, rfl, ⟨fun q hq => hv q (by have h := le_of_ge (a := 28) (b := k) (by decide) (by omega) c_7; omega), ho⟩, by rw [ht9]; exact hP, hD⟩, hS.F ht9⟩) hS.2.2 dX9_copy_28
      · have hk2 : k < 28 := lt_of_nge (a := 28) (b := k) (by decide) (by omega) c_7
        refine lv_aload_n hx hb dX9_copy_10 rfl (lv_at hl 3 rfl) ?_
        refine lv_iload_n hx hb dX9_copy_11 rfl (lv_at hl 4 rfl) ?_
        refine lv_iload hx hb dX9_copy_12 (lv_at hl 0 rfl) ?_
        refine lv_iadd hx hb dX9_copy_14 ?_
        refine top_i (y := (nI (pb + k))) (nI_add _ _) ?_
        refine lv_aload_n hx hb dX9_copy_15 rfl (lv_at hl 1 rfl) ?_
        refine lv_iload_n hx hb dX9_copy_16 rfl (lv_at hl 2 rfl) ?_
        refine lv_iload hx hb dX9_copy_17 (lv_at hl 0 rfl) ?_
        refine lv_iadd hx hb dX9_copy_19 ?_
        refine top_i (y := (nI (pa + k))) (nI_add _ _) ?_
        refine va_iald hx hb hK hP 0 0 rfl rfl (vp_ix (e := (pa + k)) (rfl) (by omega) (by omega)) dX9_copy_20 ?_
        refine top_i (y := (gf (pa + k))) (ld_ix (f := gf) (x := (nI (pa + k))) (e := (pa + k)) (n := na) (rfl) (by omega) (by omega)) ?_
        refine va_iast hx hb hK hP hD hS 1 0 rfl rfl (vp_ix (e := (pb + k)) (rfl) (by omega) (by omega)) dX9_copy_21 (fun H locs hP hD hS => ?_)
        rw [cl_ix (x := (nI (pb + k))) (e := (pb + k)) (n := nb) (rfl) (by omega) (by omega)] at hP hD
        have hP : va_P D vwCl (aI cI ya na gf :: aI cI yb nb (upd h9 (pb + k) (gf (pa + k))) :: X) H := hP
        have hD : va_D A (aI cI ya na gf :: aI cI yb nb (upd h9 (pb + k) (gf (pa + k))) :: X) := hD
        refine lv_iinc (v := (nI (k + 1))) (lv' := [(4, .int (nI (k + 1))), (0, .ref ya), (1, .int (nI pa)), (2, .ref yb), (3, .int (nI pb))]) hx hb dX9_copy_22 hl (k := 0) rfl (nI_1 k) (by decide) rfl (fun ls hl => ?_)
        refine lv_goto (tgt := 3) hx hb dX9_copy_25 (by decide) ?_
        exact ih_3 (k + 1) (upd h9 (pb + k) (gf (pa + k))) (by omega) (by omega) (fun q hq => by by_cases z : q = k; (rw [z]; exact pk_us); (rw [pk_un (by omega)]; exact hv q (by omega))) (fun j hj => (pk_un (by omega)).trans (ho j hj)) _ _ (hP) (hD) hS _ (lv_sub hl [0, 1, 2, 3, 4] rfl)
  exact loop_3 _ 0 gt (Nat.lt_succ_self _) (Nat.zero_le _) (fun q h => absurd h (Nat.not_lt_zero _)) (fun _ _ => rfl) _ _ hP hD hS _ (lv_sub hl [0, 1, 2, 3, 4] rfl)
theorem shift_s {gv : Nat → Int32} {k : Nat} : upd (fun j => if j < k then gv (28 + j) else gv j) k ((fun j => if j < k then gv (28 + j) else gv j) (28 + k)) = fun j => if j < k + 1 then gv (28 + j) else gv j := by
  funext j
  unfold upd
  by_cases h : j = k
  · subst h
    rw [if_pos rfl, if_pos (Nat.lt_succ_self _)]
    show (if 28 + j < j then gv (28 + (28 + j)) else gv (28 + j)) = _
    rw [if_neg (by omega)]
  · rw [if_neg h]
    show (if j < k then gv (28 + j) else gv j) = _
    by_cases q : j < k
    · rw [if_pos q, if_pos (by omega)]
    · rw [if_neg q, if_neg (by omega)]
set_option maxHeartbeats 4000000 in
set_option maxRecDepth 100000 in
theorem n_save (l : Launch) (D : va_G) (cI cZ cW cJ : ClassId) (A : Nat → Prop) (X : va_W) (mo zs zv zl zk zt zg zi zw zo ze zd : Nat) (vl vh vg vc vr vt vo vp va vb vd vq : Int32) (vm : Bool) (vz : Int64) (hn : Nat) (gs gv : Nat → Int32) (S : KS) (hist : Nat → KS) (hS0 : AbsM S gs) (hH : HistM hist hn gv) : Met l yX9_save wsX9_save ({ frames := 1, cells := 0, slots := 0, locals := 24 }) (va_Pc [.ref mo] (wd D (tyL cI cZ cW cJ) A (oX9 mo zs zv (nI hn) zl zk zt vl vh zg zi zw vg zo ze vc vr vt vo (bI vm) vp va vb vd vq zd vz :: aI cI zs 28 gs :: aI cI zv 168 gv :: X))) (va_Qv (fun (u : Nat → Int32) => HistM (pushH hist hn S) (pushN hn) u) (fun (u : Nat → Int32) t => wq D A (oX9 mo zs zv (nI (pushN hn)) zl zk zt vl vh zg zi zw vg zo ze vc vr vt vo (bI vm) vp va vb vd vq zd vz :: aI cI zs 28 gs :: aI cI zv 168 u :: X) t) A) 0 0 A := by
  refine Met.ofW (cc := cX9_save) (maxL := 2) (ret := none) (by decide) rfl ?_
  intro p e s m args below meth c s₁ B hml hv
  obtain ⟨rfl, hsz9, hP, hK, hD, hN⟩ := hv
  have hx := B.exec
  have hb := B.bytes
  have hr := B.returns
  have hts := atoms_spec (ws := wsX9_save) B.pre
  have hown : s.vm.findClass RX9 = some m.cls := findClass_of_methodNamed B.named
  have hlocks := B.notSynchronized
  have CF : CallFix p m c cX9_save 2 s _ wsX9_save RX9 := ⟨hx, hb, hml, hown, hts⟩
  have hA : ∀ q : Nat, s.heap.size ≤ q → A q := hsz9
  have hS : va_S A s.heap s.heap [] := va_S.rf
  have hiX9 : ∀ w ∈ u_ws RX9 TX9 26, w ∈ wsX9_save := fun _ h => List.mem_cons_of_mem _ (List.mem_append_right _ (h))
  have hl := lv_entry ([.ref mo]) (n := 2) (Nat.le_of_ble_eq_true rfl)
  rw [lg_entry_eq]
  generalize (lg_sl ([.ref mo]) ++ List.replicate (2 - (lg_sl ([.ref mo])).length) Slot.unset).toArray = ls at hl ⊢
  have hl : lv_has ls 2 [(0, .ref mo)] := hl
  show W p l e ({ frames := 1, cells := 0, slots := 0, locals := 24 } : Room) s m (([.ref mo] : List Value).toArray) below meth c s.heap [] 0 0 (MQ below (va_Qv (fun (u : Nat → Int32) => HistM (pushH hist hn S) (pushN hn) u) (fun (u : Nat → Int32) t => wq D A (oX9 mo zs zv (nI (pushN hn)) zl zk zt vl vh zg zi zw vg zo ze vc vr vt vo (bI vm) vp va vb vd vq zd vz :: aI cI zs 28 gs :: aI cI zv 168 u :: X) t) A) (([.ref mo] : List Value).toArray) s 0 0 A) (F0 m 0 ls [])
  refine lv_aload_n hx hb dX9_save_0 rfl (lv_at hl 0 rfl) ?_
  refine va_get (D := D) (ci := 9) (v := .int (nI hn)) (C := RX9) (T := TX9) (N := 26) hx hb hts hiX9 hown hK hP 0 rfl rfl 2 (by decide) (hts (.fieldLink RX9 59 "LedgeLeapsModel" "savedMany" "I") (List.mem_of_getElem? (i := 1) rfl)) (fun _ h9 => h9) rfl dX9_save_1 ?_
  refine lv_bipush (v := 6) hx hb dX9_save_4 (by decide) ?_
  refine lv_icmp_ne (tgt := 49) hx hb dX9_save_6 (by decide) (fun c_6 => ?_) (fun c_6 => ?_)
  · have h6 : ¬ hn = 6 := fun q => c_6 (by rw [q]; rfl)
    have hn6 := hH.1
    refine lv_aload_n hx hb dX9_save_49 rfl (lv_at hl 0 rfl) ?_
    refine va_get (D := D) (ci := 9) (v := .ref zs) (C := RX9) (T := TX9) (N := 26) hx hb hts hiX9 hown hK hP 0 rfl rfl 0 (by decide) (hts (.fieldLink RX9 7 "LedgeLeapsModel" "s" "[I") (List.mem_of_getElem? (i := 3) rfl)) (fun _ h9 => h9) rfl dX9_save_50 ?_
    refine lv_iconst (v := 0) hx hb dX9_save_53 (by decide) ?_
    refine lv_aload_n hx hb dX9_save_54 rfl (lv_at hl 0 rfl) ?_
    refine va_get (D := D) (ci := 9) (v := .ref zv) (C := RX9) (T := TX9) (N := 26) hx hb hts hiX9 hown hK hP 0 rfl rfl 1 (by decide) (hts (.fieldLink RX9 13 "LedgeLeapsModel" "saved" "[I") (List.mem_of_getElem? (i := 2) rfl)) (fun _ h9 => h9) rfl dX9_save_55 ?_
    refine lv_bipush (v := 28) hx hb dX9_save_58 (by decide) ?_
    refine lv_aload_n hx hb dX9_save_60 rfl (lv_at hl 0 rfl) ?_
    refine va_get (D := D) (ci := 9) (v := .int (nI hn)) (C := RX9) (T := TX9) (N := 26) hx hb hts hiX9 hown hK hP 0 rfl rfl 2 (by decide) (hts (.fieldLink RX9 59 "LedgeLeapsModel" "savedMany" "I") (List.mem_of_getElem? (i := 1) rfl)) (fun _ h9 => h9) rfl dX9_save_61 ?_
    refine lv_imul hx hb dX9_save_64 ?_
    refine top_i (y := (nI (28 * hn))) (pk_mul 28 hn) ?_
    refine cS_v CF hK hN hA hS (cut_of 3 [1, 2, 0] hP hD rfl rfl rfl) (n_copy l D cI cZ cW cJ A (oX9 mo zs zv (nI hn) zl zk zt vl vh zg zi zw vg zo ze vc vr vt vo (bI vm) vp va vb vd vq zd vz :: X) zs zv 28 168 0 (28 * hn) gs gv (by omega) (by omega) (by decide) (by decide)) (va_cwS 4 hts gX9_save_X9_copy rfl rfl rfl (by decide +kernel) ⟨Nat.le_of_ble_eq_true rfl, Nat.le_of_ble_eq_true rfl⟩) (As := [.ref zs, .int 0, .ref zv, .int (nI (28 * hn))]) (rest := []) rfl hl.1 rfl (Nat.le_of_ble_eq_true rfl) dX9_save_65 ⟨Nat.le_of_ble_eq_true rfl, Nat.le_of_ble_eq_true rfl⟩ (fun u_65 H locs hq hP hD hS => ?_)
    have hq_65 : (∀ k, k < 28 → u_65 ((28 * hn) + k) = gs (0 + k)) ∧ ∀ j, (j < (28 * hn) ∨ (28 * hn) + 28 ≤ j) → u_65 j = gv j := hq
    have hP : va_P D vwCl (oX9 mo zs zv (nI hn) zl zk zt vl vh zg zi zw vg zo ze vc vr vt vo (bI vm) vp va vb vd vq zd vz :: aI cI zs 28 gs :: aI cI zv 168 u_65 :: X) H := pm_P hP 3 [2, 0, 1] rfl
    have hD : va_D A (oX9 mo zs zv (nI hn) zl zk zt vl vh zg zi zw vg zo ze vc vr vt vo (bI vm) vp va vb vd vq zd vz :: aI cI zs 28 gs :: aI cI zv 168 u_65 :: X) := pm_D hD 3 [2, 0, 1] rfl rfl rfl
    obtain ⟨hsv, hsn⟩ := hH.save hS0 (Or.inr ⟨h6, rfl⟩) hn (by rw [if_neg h6]) (fun k hk => (hq_65.1 k hk).trans (by rw [Nat.zero_add])) (fun j hj => hq_65.2 j (Or.inl hj))
    refine lv_aload_n hx hb dX9_save_68 rfl (lv_at hl 0 rfl) ?_
    refine lv_dup hx hb dX9_save_69 rfl ?_
    refine va_get (D := D) (ci := 9) (v := .int (nI hn)) (C := RX9) (T := TX9) (N := 26) hx hb hts hiX9 hown hK hP 0 rfl rfl 2 (by decide) (hts (.fieldLink RX9 59 "LedgeLeapsModel" "savedMany" "I") (List.mem_of_getElem? (i := 1) rfl)) (fun _ h9 => h9) rfl dX9_save_70 ?_
    refine lv_iconst (v := 1) hx hb dX9_save_73 (by decide) ?_
    refine lv_iadd hx hb dX9_save_74 ?_
    refine top_i (y := (nI (pushN hn))) (by rw [hsn]; exact nI_1 _) ?_
    refine va_put (D := D) (ci := 9) (v := .int (nI (pushN hn))) (ty := .int) (C := RX9) (T := TX9) (N := 26) hx hb hts hiX9 tyX9 tyX9_ok nmX9 hown hK hP hD hS 0 rfl rfl 2 (by decide) (hts (.fieldLink RX9 59 "LedgeLeapsModel" "savedMany" "I") (List.mem_of_getElem? (i := 1) rfl)) (fun _ h9 => h9) rfl (by decide +kernel) rfl rfl (Nat.le_of_ble_eq_true rfl) dX9_save_75 (fun H locs hP hD hS => ?_)
    have hP : va_P D vwCl (oX9 mo zs zv (nI (pushN hn)) zl zk zt vl vh zg zi zw vg zo ze vc vr vt vo (bI vm) vp va vb vd vq zd vz :: aI cI zs 28 gs :: aI cI zv 168 u_65 :: X) H := hP
    have hD : va_D A (oX9 mo zs zv (nI (pushN hn)) zl zk zt vl vh zg zi zw vg zo ze vc vr vt vo (bI vm) vp va vb vd vq zd vz :: aI cI zs 28 gs :: aI cI zv 168 u_65 :: X) := hD
    exact W.vret hx hb hr (fun t9 ht9 hW9 => ⟨⟨u_65, rfl, hsv, by rw [ht9]; exact hP, hD⟩, hS.F ht9⟩) hS.2.2 dX9_save_78
  · have h6 : hn = 6 := nI_inj (by have := hH.1; omega) (by decide) c_6
    refine lv_iconst (v := 0) hx hb dX9_save_9 (by decide) ?_
    refine lv_istore_n (lv' := [(1, .int 0), (0, .ref mo)]) hx hb dX9_save_10 rfl hl (by decide) rfl (fun ls hl => ?_)
    have loop_11 : ∀ (nfu : Nat) (k9 : Nat) (hn_11 : 140 - k9 < nfu) (hk9 : k9 ≤ 140) (H : Heap) (locs : List Loc) (hP : va_P D vwCl (oX9 mo zs zv (nI hn) zl zk zt vl vh zg zi zw vg zo ze vc vr vt vo (bI vm) vp va vb vd vq zd vz :: aI cI zs 28 gs :: aI cI zv 168 (fun j => if j < k9 then gv (28 + j) else gv j) :: X) H) (hD : va_D A (oX9 mo zs zv (nI hn) zl zk zt vl vh zg zi zw vg zo ze vc vr vt vo (bI vm) vp va vb vd vq zd vz :: aI cI zs 28 gs :: aI cI zv 168 (fun j => if j < k9 then gv (28 + j) else gv j) :: X)) (hS : va_S A s.heap H locs) (ls : Array Slot) (hl : lv_has ls 2 [(1, .int (nI k9)), (0, .ref mo)]), W p l e ({ frames := 1, cells := 0, slots := 0, locals := 24 } : Room) s m (([.ref mo] : List Value).toArray) below meth c H locs 0 0 (MQ below (va_Qv (fun (u : Nat → Int32) => HistM (pushH hist hn S) (pushN hn) u) (fun (u : Nat → Int32) t => wq D A (oX9 mo zs zv (nI (pushN hn)) zl zk zt vl vh zg zi zw vg zo ze vc vr vt vo (bI vm) vp va vb vd vq zd vz :: aI cI zs 28 gs :: aI cI zv 168 u :: X) t) A) (([.ref mo] : List Value).toArray) s 0 0 A) (F0 m 11 ls []) := by
      intro nfu
      induction nfu with
      | zero => intro k9 hn_11; exact absurd hn_11 (Nat.not_lt_zero _)
      | succ nfu ih_11 =>
        intro k9 hn_11 hk9 H locs hP hD hS ls hl
        refine lv_iload_n hx hb dX9_save_11 rfl (lv_at hl 0 rfl) ?_
        refine lv_sipush (v := 140) hx hb dX9_save_12 (by decide) ?_
        refine lv_icmp_ge (tgt := 39) hx hb dX9_save_15 (by decide) (fun c_15 => ?_) (fun c_15 => ?_)
        · obtain rfl : k9 = 140 := by have h := le_of_ge (a := 140) (b := k9) (by decide) (by omega) c_15; omega
          refine lv_aload_n hx hb dX9_save_39 rfl (lv_at hl 1 rfl) ?_
          refine lv_dup hx hb dX9_save_40 rfl ?_
          refine va_get (D := D) (ci := 9) (v := .int (nI hn)) (C := RX9) (T := TX9) (N := 26) hx hb hts hiX9 hown hK hP 0 rfl rfl 2 (by decide) (hts (.fieldLink RX9 59 "LedgeLeapsModel" "savedMany" "I") (List.mem_of_getElem? (i := 1) rfl)) (fun _ h9 => h9) rfl dX9_save_41 ?_
          refine lv_iconst (v := 1) hx hb dX9_save_44 (by decide) ?_
          refine lv_isub hx hb dX9_save_45 ?_
          refine top_i (y := (nI 5)) (by rw [h6]; rfl) ?_
          refine va_put (D := D) (ci := 9) (v := .int (nI 5)) (ty := .int) (C := RX9) (T := TX9) (N := 26) hx hb hts hiX9 tyX9 tyX9_ok nmX9 hown hK hP hD hS 0 rfl rfl 2 (by decide) (hts (.fieldLink RX9 59 "LedgeLeapsModel" "savedMany" "I") (List.mem_of_getElem? (i := 1) rfl)) (fun _ h9 => h9) rfl (by decide +kernel) rfl rfl (Nat.le_of_ble_eq_true rfl) dX9_save_46 (fun H locs hP hD hS => ?_)
          have hP : va_P D vwCl (oX9 mo zs zv (nI 5) zl zk zt vl vh zg zi zw vg zo ze vc vr vt vo (bI vm) vp va vb vd vq zd vz :: aI cI zs 28 gs :: aI cI zv 168 (fun j => if j < 140 then gv (28 + j) else gv j) :: X) H := hP
          have hD : va_D A (oX9 mo zs zv (nI 5) zl zk zt vl vh zg zi zw vg zo ze vc vr vt vo (bI vm) vp va vb vd vq zd vz :: aI cI zs 28 gs :: aI cI zv 168 (fun j => if j < 140 then gv (28 + j) else gv j) :: X) := hD
          refine lv_aload_n hx hb dX9_save_49 rfl (lv_at hl 1 rfl) ?_
          refine va_get (D := D) (ci := 9) (v := .ref zs) (C := RX9) (T := TX9) (N := 26) hx hb hts hiX9 hown hK hP 0 rfl rfl 0 (by decide) (hts (.fieldLink RX9 7 "LedgeLeapsModel" "s" "[I") (List.mem_of_getElem? (i := 3) rfl)) (fun _ h9 => h9) rfl dX9_save_50 ?_
          refine lv_iconst (v := 0) hx hb dX9_save_53 (by decide) ?_
          refine lv_aload_n hx hb dX9_save_54 rfl (lv_at hl 1 rfl) ?_
          refine va_get (D := D) (ci := 9) (v := .ref zv) (C := RX9) (T := TX9) (N := 26) hx hb hts hiX9 hown hK hP 0 rfl rfl 1 (by decide) (hts (.fieldLink RX9 13 "LedgeLeapsModel" "saved" "[I") (List.mem_of_getElem? (i := 2) rfl)) (fun _ h9 => h9) rfl dX9_save_55 ?_
          refine lv_bipush (v := 28) hx hb dX9_save_58 (by decide) ?_
          refine lv_aload_n hx hb dX9_save_60 rfl (lv_at hl 1 rfl) ?_
          refine va_get (D := D) (ci := 9) (v := .int (nI 5)) (C := RX9) (T := TX9) (N := 26) hx hb hts hiX9 hown hK hP 0 rfl rfl 2 (by decide) (hts (.fieldLink RX9 59 "LedgeLeapsModel" "savedMany" "I") (List.mem_of_getElem? (i := 1) rfl)) (fun _ h9 => h9) rfl dX9_save_61 ?_
          refine lv_imul hx hb dX9_save_64 ?_
          refine top_i (y := (nI (28 * 5))) rfl ?_
          refine cS_v CF hK hN hA hS (cut_of 3 [1, 2, 0] hP hD rfl rfl rfl) (n_copy l D cI cZ cW cJ A (oX9 mo zs zv (nI 5) zl zk zt vl vh zg zi zw vg zo ze vc vr vt vo (bI vm) vp va vb vd vq zd vz :: X) zs zv 28 168 0 (28 * 5) gs (fun j => if j < 140 then gv (28 + j) else gv j) (by omega) (by omega) (by decide) (by decide)) (va_cwS 4 hts gX9_save_X9_copy rfl rfl rfl (by decide +kernel) ⟨Nat.le_of_ble_eq_true rfl, Nat.le_of_ble_eq_true rfl⟩) (As := [.ref zs, .int 0, .ref zv, .int (nI (28 * 5))]) (rest := []) rfl hl.1 rfl (Nat.le_of_ble_eq_true rfl) dX9_save_65 ⟨Nat.le_of_ble_eq_true rfl, Nat.le_of_ble_eq_true rfl⟩ (fun u_65 H locs hq hP hD hS => ?_)
          have hq_65 : (∀ k, k < 28 → u_65 ((28 * 5) + k) = gs (0 + k)) ∧ ∀ j, (j < (28 * 5) ∨ (28 * 5) + 28 ≤ j) → u_65 j = (fun j => if j < 140 then gv (28 + j) else gv j) j := hq
          have hP : va_P D vwCl (oX9 mo zs zv (nI 5) zl zk zt vl vh zg zi zw vg zo ze vc vr vt vo (bI vm) vp va vb vd vq zd vz :: aI cI zs 28 gs :: aI cI zv 168 u_65 :: X) H := pm_P hP 3 [2, 0, 1] rfl
          have hD : va_D A (oX9 mo zs zv (nI 5) zl zk zt vl vh zg zi zw vg zo ze vc vr vt vo (bI vm) vp va vb vd vq zd vz :: aI cI zs 28 gs :: aI cI zv 168 u_65 :: X) := pm_D hD 3 [2, 0, 1] rfl rfl rfl
          obtain ⟨hsv, hsn⟩ := hH.save hS0 (Or.inl ⟨h6, fun j hj => (if_pos hj : (fun j => if j < 140 then gv (28 + j) else gv j) j = gv (28 + j))⟩) 5 (by rw [if_pos h6]) (fun k hk => (hq_65.1 k hk).trans (by rw [Nat.zero_add])) (fun j hj => hq_65.2 j (Or.inl hj))
          refine lv_aload_n hx hb dX9_save_68 rfl (lv_at hl 1 rfl) ?_
          refine lv_dup hx hb dX9_save_69 rfl ?_
          refine va_get (D := D) (ci := 9) (v := .int (nI 5)) (C := RX9) (T := TX9) (N := 26) hx hb hts hiX9 hown hK hP 0 rfl rfl 2 (by decide) (hts (.fieldLink RX9 59 "LedgeLeapsModel" "savedMany" "I") (List.mem_of_getElem? (i := 1) rfl)) (fun _ h9 => h9) rfl dX9_save_70 ?_
          refine lv_iconst (v := 1) hx hb dX9_save_73 (by decide) ?_
          refine lv_iadd hx hb dX9_save_74 ?_
          refine top_i (y := (nI (pushN hn))) (by rw [hsn]; exact nI_1 _) ?_
          refine va_put (D := D) (ci := 9) (v := .int (nI (pushN hn))) (ty := .int) (C := RX9) (T := TX9) (N := 26) hx hb hts hiX9 tyX9 tyX9_ok nmX9 hown hK hP hD hS 0 rfl rfl 2 (by decide) (hts (.fieldLink RX9 59 "LedgeLeapsModel" "savedMany" "I") (List.mem_of_getElem? (i := 1) rfl)) (fun _ h9 => h9) rfl (by decide +kernel) rfl rfl (Nat.le_of_ble_eq_true rfl) dX9_save_75 (fun H locs hP hD hS => ?_)
          have hP : va_P D vwCl (oX9 mo zs zv (nI (pushN hn)) zl zk zt vl vh zg zi zw vg zo ze vc vr vt vo (bI vm) vp va vb vd vq zd vz :: aI cI zs 28 gs :: aI cI zv 168 u_65 :: X) H := hP
          have hD : va_D A (oX9 mo zs zv (nI (pushN hn)) zl zk zt vl vh zg zi zw vg zo ze vc vr vt vo (bI vm) vp va vb vd vq zd vz :: aI cI zs 28 gs :: aI cI zv 168 u_65 :: X) := hD
          exact W.vret hx hb hr (fun t9 ht9 hW9 => ⟨⟨u_65, rfl, hsv, by rw [ht9]; exact hP, hD⟩, hS.F ht9⟩) hS.2.2 dX9_save_78
        · have hk2 : k9 < 140 := lt_of_nge (a := 140) (b := k9) (by decide) (by omega) c_15
          refine lv_aload_n hx hb dX9_save_18 rfl (lv_at hl 1 rfl) ?_
          refine va_get (D := D) (ci := 9) (v := .ref zv) (C := RX9) (T := TX9) (N := 26) hx hb hts hiX9 hown hK hP 0 rfl rfl 1 (by decide) (hts (.fieldLink RX9 13 "LedgeLeapsModel" "saved" "[I") (List.mem_of_getElem? (i := 2) rfl)) (fun _ h9 => h9) rfl dX9_save_19 ?_
          refine lv_iload_n hx hb dX9_save_22 rfl (lv_at hl 0 rfl) ?_
          refine lv_aload_n hx hb dX9_save_23 rfl (lv_at hl 1 rfl) ?_
          refine va_get (D := D) (ci := 9) (v := .ref zv) (C := RX9) (T := TX9) (N := 26) hx hb hts hiX9 hown hK hP 0 rfl rfl 1 (by decide) (hts (.fieldLink RX9 13 "LedgeLeapsModel" "saved" "[I") (List.mem_of_getElem? (i := 2) rfl)) (fun _ h9 => h9) rfl dX9_save_24 ?_
          refine lv_bipush (v := 28) hx hb dX9_save_27 (by decide) ?_
          refine lv_iload_n hx hb dX9_save_29 rfl (lv_at hl 0 rfl) ?_
          refine lv_iadd hx hb dX9_save_30 ?_
          refine top_i (y := (nI (28 + k9))) (nI_add 28 k9) ?_
          refine va_iald hx hb hK hP 2 0 rfl rfl (vp_ix (e := (28 + k9)) (rfl) (by omega) (by decide)) dX9_save_31 ?_
          refine top_i (y := ((fun j => if j < k9 then gv (28 + j) else gv j) (28 + k9))) (ld_ix (f := (fun j => if j < k9 then gv (28 + j) else gv j)) (x := (nI (28 + k9))) (e := (28 + k9)) (n := 168) (rfl) (by omega) (by decide)) ?_
          refine va_iast hx hb hK hP hD hS 2 0 rfl rfl (vp_ix (e := k9) (rfl) (by omega) (by decide)) dX9_save_32 (fun H locs hP hD hS => ?_)
          rw [cl_ix (x := (nI k9)) (e := k9) (n := 168) (rfl) (by omega) (by decide)] at hP hD
          have hP : va_P D vwCl (oX9 mo zs zv (nI hn) zl zk zt vl vh zg zi zw vg zo ze vc vr vt vo (bI vm) vp va vb vd vq zd vz :: aI cI zs 28 gs :: aI cI zv 168 (upd (fun j => if j < k9 then gv (28 + j) else gv j) k9 ((fun j => if j < k9 then gv (28 + j) else gv j) (28 + k9))) :: X) H := hP
          have hD : va_D A (oX9 mo zs zv (nI hn) zl zk zt vl vh zg zi zw vg zo ze vc vr vt vo (bI vm) vp va vb vd vq zd vz :: aI cI zs 28 gs :: aI cI zv 168 (upd (fun j => if j < k9 then gv (28 + j) else gv j) k9 ((fun j => if j < k9 then gv (28 + j) else gv j) (28 + k9))) :: X) := hD
          refine lv_iinc (v := (nI (k9 + 1))) (lv' := [(1, .int (nI (k9 + 1))), (0, .ref mo)]) hx hb dX9_save_33 hl (k := 0) rfl (nI_1 k9) (by decide) rfl (fun ls hl => ?_)
          refine lv_goto (tgt := 11) hx hb dX9_save_36 (by decide) ?_
          rw [shift_s] at hP hD
          exact ih_11 (k9 + 1) (by omega) (by omega) _ _ (hP) (hD) hS _ (lv_sub hl [0, 1] rfl)
    rw [show gv = (fun j => if j < 0 then gv (28 + j) else gv j) from funext fun j => (if_neg (Nat.not_lt_zero j)).symm] at hP hD
    exact loop_11 _ 0 (Nat.lt_succ_self _) (Nat.zero_le _) _ _ hP hD hS _ (lv_sub hl [0, 1] rfl)
set_option maxHeartbeats 4000000 in
set_option maxRecDepth 100000 in
theorem n_refuse (l : Launch) (D : va_G) (cI cZ cW cJ : ClassId) (A : Nat → Prop) (X : va_W) (mo zs zv zl zk zt zg zi zw zo ze zd : Nat) (vn vl vh vg vc vr vt vo vp va vb vd vq : Int32) (vm : Bool) (vz : Int64) (gs : Nat → Int32) (S : KS) (hS0 : AbsM S gs) : Met l yX9_refuse wsX9_refuse ({ frames := 0, cells := 0, slots := 0, locals := 0 }) (va_Pc [.ref mo] (wd D (tyL cI cZ cW cJ) A (oX9 mo zs zv vn zl zk zt vl vh zg zi zw vg zo ze vc vr vt vo (bI vm) vp va vb vd vq zd vz :: aI cI zs 28 gs :: X))) (va_Qi (fun (r : Int32) (u : Nat → Int32) => r = (-1) ∧ AbsM (refK S) u) (fun (u : Nat → Int32) t => wq D A (oX9 mo zs zv vn zl zk zt vl vh zg zi zw vg zo ze vc vr vt vo (bI vm) vp va vb vd vq zd vz :: aI cI zs 28 u :: X) t) A) 0 0 A := by
  refine Met.ofW (cc := cX9_refuse) (maxL := 1) (ret := (some .int)) (by decide) rfl ?_
  intro p e s m args below meth c s₁ B hml hv
  obtain ⟨rfl, hsz9, hP, hK, hD, hN⟩ := hv
  have hx := B.exec
  have hb := B.bytes
  have hr := B.returns
  have hts := atoms_spec (ws := wsX9_refuse) B.pre
  have hown : s.vm.findClass RX9 = some m.cls := findClass_of_methodNamed B.named
  have hlocks := B.notSynchronized
  have CF : CallFix p m c cX9_refuse 1 s _ wsX9_refuse RX9 := ⟨hx, hb, hml, hown, hts⟩
  have hA : ∀ q : Nat, s.heap.size ≤ q → A q := hsz9
  have hS : va_S A s.heap s.heap [] := va_S.rf
  have hiX9 : ∀ w ∈ u_ws RX9 TX9 26, w ∈ wsX9_refuse := fun _ h => List.mem_cons_of_mem _ (List.mem_append_right _ (h))
  have hl := lv_entry ([.ref mo]) (n := 1) (Nat.le_of_ble_eq_true rfl)
  rw [lg_entry_eq]
  generalize (lg_sl ([.ref mo]) ++ List.replicate (1 - (lg_sl ([.ref mo])).length) Slot.unset).toArray = ls at hl ⊢
  have hl : lv_has ls 1 [(0, .ref mo)] := hl
  show W p l e ({ frames := 0, cells := 0, slots := 0, locals := 0 } : Room) s m (([.ref mo] : List Value).toArray) below meth c s.heap [] 0 0 (MQ below (va_Qi (fun (r : Int32) (u : Nat → Int32) => r = (-1) ∧ AbsM (refK S) u) (fun (u : Nat → Int32) t => wq D A (oX9 mo zs zv vn zl zk zt vl vh zg zi zw vg zo ze vc vr vt vo (bI vm) vp va vb vd vq zd vz :: aI cI zs 28 u :: X) t) A) (([.ref mo] : List Value).toArray) s 0 0 A) (F0 m 0 ls [])
  refine lv_aload_n hx hb dX9_refuse_0 rfl (lv_at hl 0 rfl) ?_
  refine va_get (D := D) (ci := 9) (v := .ref zs) (C := RX9) (T := TX9) (N := 26) hx hb hts hiX9 hown hK hP 0 rfl rfl 0 (by decide) (hts (.fieldLink RX9 7 "LedgeLeapsModel" "s" "[I") (List.mem_of_getElem? (i := 1) rfl)) (fun _ h9 => h9) rfl dX9_refuse_1 ?_
  refine lv_bipush (v := 27) hx hb dX9_refuse_4 (by decide) ?_
  refine lv_dup2_11 hx hb dX9_refuse_6 rfl rfl ?_
  refine va_iald hx hb hK hP 1 0 rfl rfl (show ¬ ((27 : Int32) < 0 ∨ 28 ≤ (27 : Int32).toNatClampNeg) by decide) dX9_refuse_7 ?_
  refine top_i (y := (gs 27)) (rfl) ?_
  refine lv_iconst (v := 1) hx hb dX9_refuse_8 (by decide) ?_
  refine lv_iadd hx hb dX9_refuse_9 ?_
  refine va_iast hx hb hK hP hD hS 1 0 rfl rfl (show ¬ ((27 : Int32) < 0 ∨ 28 ≤ (27 : Int32).toNatClampNeg) by decide) dX9_refuse_10 (fun H locs hP hD hS => ?_)
  have hP : va_P D vwCl (oX9 mo zs zv vn zl zk zt vl vh zg zi zw vg zo ze vc vr vt vo (bI vm) vp va vb vd vq zd vz :: aI cI zs 28 (upd gs 27 ((gs 27) + 1)) :: X) H := hP
  have hD : va_D A (oX9 mo zs zv vn zl zk zt vl vh zg zi zw vg zo ze vc vr vt vo (bI vm) vp va vb vd vq zd vz :: aI cI zs 28 (upd gs 27 ((gs 27) + 1)) :: X) := hD
  refine lv_iconst (v := (-1)) hx hb dX9_refuse_11 (by decide) ?_
  exact W.iret (v := (-1)) hx hb hr (fun t9 ht9 hW9 => ⟨⟨(-1), (upd gs 27 ((gs 27) + 1)), rfl, ⟨rfl, hS0.ref⟩, by rw [ht9]; exact hP, hD⟩, hS.F ht9⟩) hS.2.2 dX9_refuse_12
set_option maxHeartbeats 4000000 in
set_option maxRecDepth 100000 in
theorem n_ledgeAt (l : Launch) (D : va_G) (cI cZ cW cJ : ClassId) (A : Nat → Prop) (X : va_W) (mo zs zv zl zk zt zg zi zw zo ze zd : Nat) (vn vl vh vg vc vr vt vo vp va vb vd vq : Int32) (vm : Bool) (vz : Int64) (gg : Nat → Int32) (ac ar : Nat) (hac : ac < 20) (har : ar < 10) : Met l yX9_ledgeAt wsX9_ledgeAt ({ frames := 0, cells := 0, slots := 0, locals := 0 }) (va_Pc [.ref mo, .int (nI ac), .int (nI ar)] (wd D (tyL cI cZ cW cJ) A (oX9 mo zs zv vn zl zk zt vl vh zg zi zw vg zo ze vc vr vt vo (bI vm) vp va vb vd vq zd vz :: aI cI zg 200 gg :: X))) (va_Qi (fun (r : Int32) (u : Unit) => r = gg (20 * ar + ac)) (fun (u : Unit) t => wq D A (oX9 mo zs zv vn zl zk zt vl vh zg zi zw vg zo ze vc vr vt vo (bI vm) vp va vb vd vq zd vz :: aI cI zg 200 gg :: X) t) A) 0 0 A := by
  refine Met.ofW (cc := cX9_ledgeAt) (maxL := 3) (ret := (some .int)) (by decide) rfl ?_
  intro p e s m args below meth c s₁ B hml hv
  obtain ⟨rfl, hsz9, hP, hK, hD, hN⟩ := hv
  have hx := B.exec
  have hb := B.bytes
  have hr := B.returns
  have hts := atoms_spec (ws := wsX9_ledgeAt) B.pre
  have hown : s.vm.findClass RX9 = some m.cls := findClass_of_methodNamed B.named
  have hlocks := B.notSynchronized
  have CF : CallFix p m c cX9_ledgeAt 3 s _ wsX9_ledgeAt RX9 := ⟨hx, hb, hml, hown, hts⟩
  have hA : ∀ q : Nat, s.heap.size ≤ q → A q := hsz9
  have hS : va_S A s.heap s.heap [] := va_S.rf
  have hiX9 : ∀ w ∈ u_ws RX9 TX9 26, w ∈ wsX9_ledgeAt := fun _ h => List.mem_cons_of_mem _ (List.mem_append_right _ (h))
  have hl := lv_entry ([.ref mo, .int (nI ac), .int (nI ar)]) (n := 3) (Nat.le_of_ble_eq_true rfl)
  rw [lg_entry_eq]
  generalize (lg_sl ([.ref mo, .int (nI ac), .int (nI ar)]) ++ List.replicate (3 - (lg_sl ([.ref mo, .int (nI ac), .int (nI ar)])).length) Slot.unset).toArray = ls at hl ⊢
  have hl : lv_has ls 3 [(0, .ref mo), (1, .int (nI ac)), (2, .int (nI ar))] := hl
  show W p l e ({ frames := 0, cells := 0, slots := 0, locals := 0 } : Room) s m (([.ref mo, .int (nI ac), .int (nI ar)] : List Value).toArray) below meth c s.heap [] 0 0 (MQ below (va_Qi (fun (r : Int32) (u : Unit) => r = gg (20 * ar + ac)) (fun (u : Unit) t => wq D A (oX9 mo zs zv vn zl zk zt vl vh zg zi zw vg zo ze vc vr vt vo (bI vm) vp va vb vd vq zd vz :: aI cI zg 200 gg :: X) t) A) (([.ref mo, .int (nI ac), .int (nI ar)] : List Value).toArray) s 0 0 A) (F0 m 0 ls [])
  refine lv_aload_n hx hb dX9_ledgeAt_0 rfl (lv_at hl 0 rfl) ?_
  refine va_get (D := D) (ci := 9) (v := .ref zg) (C := RX9) (T := TX9) (N := 26) hx hb hts hiX9 hown hK hP 0 rfl rfl 8 (by decide) (hts (.fieldLink RX9 26 "LedgeLeapsModel" "ledge" "[I") (List.mem_of_getElem? (i := 1) rfl)) (fun _ h9 => h9) rfl dX9_ledgeAt_1 ?_
  refine lv_bipush (v := 20) hx hb dX9_ledgeAt_4 (by decide) ?_
  refine lv_iload_n hx hb dX9_ledgeAt_6 rfl (lv_at hl 2 rfl) ?_
  refine lv_imul hx hb dX9_ledgeAt_7 ?_
  refine top_i (y := (nI (20 * ar))) (pk_mul 20 ar) ?_
  refine lv_iload_n hx hb dX9_ledgeAt_8 rfl (lv_at hl 1 rfl) ?_
  refine lv_iadd hx hb dX9_ledgeAt_9 ?_
  refine top_i (y := (nI (20 * ar + ac))) (nI_add _ _) ?_
  refine va_iald hx hb hK hP 1 0 rfl rfl (vp_ix (e := (20 * ar + ac)) (rfl) (by omega) (by decide)) dX9_ledgeAt_10 ?_
  refine top_i (y := (gg (20 * ar + ac))) (ld_ix (f := gg) (x := (nI (20 * ar + ac))) (e := (20 * ar + ac)) (n := 200) (rfl) (by omega) (by decide)) ?_
  exact W.iret (v := (gg (20 * ar + ac))) hx hb hr (fun t9 ht9 hW9 => ⟨⟨(gg (20 * ar + ac)), (), rfl, rfl, by rw [ht9]; exact hP, hD⟩, hS.F ht9⟩) hS.2.2 dX9_ledgeAt_11
set_option maxHeartbeats 4000000 in
set_option maxRecDepth 100000 in
theorem n_ownLedge (l : Launch) (D : va_G) (cI cZ cW cJ : ClassId) (A : Nat → Prop) (X : va_W) (mo zs zv zl zk zt zg zi zw zo ze zd : Nat) (vn vl vh vg vc vr vt vo vp va vb vd vq : Int32) (vm : Bool) (vz : Int64) (gs gg : Nat → Int32) (S : KS) (hS0 : AbsM S gs) (hWf : Wf S) : Met l yX9_ownLedge wsX9_ownLedge ({ frames := 1, cells := 0, slots := 0, locals := 22 }) (va_Pc [.ref mo] (wd D (tyL cI cZ cW cJ) A (oX9 mo zs zv vn zl zk zt vl vh zg zi zw vg zo ze vc vr vt vo (bI vm) vp va vb vd vq zd vz :: aI cI zs 28 gs :: aI cI zg 200 gg :: X))) (va_Qi (fun (r : Int32) (u : Unit) => r = gg (20 * S.2.2.1.2 + S.2.2.1.1)) (fun (u : Unit) t => wq D A (oX9 mo zs zv vn zl zk zt vl vh zg zi zw vg zo ze vc vr vt vo (bI vm) vp va vb vd vq zd vz :: aI cI zs 28 gs :: aI cI zg 200 gg :: X) t) A) 0 0 A := by
  refine Met.ofW (cc := cX9_ownLedge) (maxL := 1) (ret := (some .int)) (by decide) rfl ?_
  intro p e s m args below meth c s₁ B hml hv
  obtain ⟨rfl, hsz9, hP, hK, hD, hN⟩ := hv
  have hx := B.exec
  have hb := B.bytes
  have hr := B.returns
  have hts := atoms_spec (ws := wsX9_ownLedge) B.pre
  have hown : s.vm.findClass RX9 = some m.cls := findClass_of_methodNamed B.named
  have hlocks := B.notSynchronized
  have CF : CallFix p m c cX9_ownLedge 1 s _ wsX9_ownLedge RX9 := ⟨hx, hb, hml, hown, hts⟩
  have hA : ∀ q : Nat, s.heap.size ≤ q → A q := hsz9
  have hS : va_S A s.heap s.heap [] := va_S.rf
  have hiX9 : ∀ w ∈ u_ws RX9 TX9 26, w ∈ wsX9_ownLedge := fun _ h => List.mem_cons_of_mem _ (List.mem_append_right _ (h))
  have hl := lv_entry ([.ref mo]) (n := 1) (Nat.le_of_ble_eq_true rfl)
  rw [lg_entry_eq]
  generalize (lg_sl ([.ref mo]) ++ List.replicate (1 - (lg_sl ([.ref mo])).length) Slot.unset).toArray = ls at hl ⊢
  have hl : lv_has ls 1 [(0, .ref mo)] := hl
  show W p l e ({ frames := 1, cells := 0, slots := 0, locals := 22 } : Room) s m (([.ref mo] : List Value).toArray) below meth c s.heap [] 0 0 (MQ below (va_Qi (fun (r : Int32) (u : Unit) => r = gg (20 * S.2.2.1.2 + S.2.2.1.1)) (fun (u : Unit) t => wq D A (oX9 mo zs zv vn zl zk zt vl vh zg zi zw vg zo ze vc vr vt vo (bI vm) vp va vb vd vq zd vz :: aI cI zs 28 gs :: aI cI zg 200 gg :: X) t) A) (([.ref mo] : List Value).toArray) s 0 0 A) (F0 m 0 ls [])
  refine lv_aload_n hx hb dX9_ownLedge_0 rfl (lv_at hl 0 rfl) ?_
  refine lv_aload_n hx hb dX9_ownLedge_1 rfl (lv_at hl 0 rfl) ?_
  refine va_get (D := D) (ci := 9) (v := .ref zs) (C := RX9) (T := TX9) (N := 26) hx hb hts hiX9 hown hK hP 0 rfl rfl 0 (by decide) (hts (.fieldLink RX9 7 "LedgeLeapsModel" "s" "[I") (List.mem_of_getElem? (i := 1) rfl)) (fun _ h9 => h9) rfl dX9_ownLedge_2 ?_
  refine lv_bipush (v := 23) hx hb dX9_ownLedge_5 (by decide) ?_
  refine va_iald hx hb hK hP 1 0 rfl rfl (show ¬ ((23 : Int32) < 0 ∨ 28 ≤ (23 : Int32).toNatClampNeg) by decide) dX9_ownLedge_7 ?_
  refine top_i (y := (gs 23)) (rfl) ?_
  refine top_i (y := (nI S.2.2.1.1)) hS0.2.2.1.1 ?_
  refine lv_aload_n hx hb dX9_ownLedge_8 rfl (lv_at hl 0 rfl) ?_
  refine va_get (D := D) (ci := 9) (v := .ref zs) (C := RX9) (T := TX9) (N := 26) hx hb hts hiX9 hown hK hP 0 rfl rfl 0 (by decide) (hts (.fieldLink RX9 7 "LedgeLeapsModel" "s" "[I") (List.mem_of_getElem? (i := 1) rfl)) (fun _ h9 => h9) rfl dX9_ownLedge_9 ?_
  refine lv_bipush (v := 24) hx hb dX9_ownLedge_12 (by decide) ?_
  refine va_iald hx hb hK hP 1 0 rfl rfl (show ¬ ((24 : Int32) < 0 ∨ 28 ≤ (24 : Int32).toNatClampNeg) by decide) dX9_ownLedge_14 ?_
  refine top_i (y := (gs 24)) (rfl) ?_
  refine top_i (y := (nI S.2.2.1.2)) hS0.2.2.1.2 ?_
  refine cV_i CF hK hN hA hS (cut_of 3 [0, 2, 1] hP hD rfl rfl rfl) (n_ledgeAt l D cI cZ cW cJ A (aI cI zs 28 gs :: X) mo zs zv zl zk zt zg zi zw zo ze zd vn vl vh vg vc vr vt vo vp va vb vd vq vm vz gg S.2.2.1.1 S.2.2.1.2 hWf.2.1 hWf.2.2.1) (cwV 2 hts gX9_ownLedge_X9_ledgeAt rfl rfl rfl (by decide +kernel) ⟨Nat.le_of_ble_eq_true rfl, Nat.le_of_ble_eq_true rfl⟩) (As := [.int (nI S.2.2.1.1), .int (nI S.2.2.1.2)]) (rest := []) (ci := 9) (q0 := 0) rfl rfl rfl hl.1 rfl (Nat.le_of_ble_eq_true rfl) dX9_ownLedge_15 ⟨Nat.le_of_ble_eq_true rfl, Nat.le_of_ble_eq_true rfl⟩ (fun r_15 _ H locs hq hP hD hS => ?_)
  have hq : r_15 = gg (20 * S.2.2.1.2 + S.2.2.1.1) := hq
  subst hq
  have hP : va_P D vwCl (oX9 mo zs zv vn zl zk zt vl vh zg zi zw vg zo ze vc vr vt vo (bI vm) vp va vb vd vq zd vz :: aI cI zs 28 gs :: aI cI zg 200 gg :: X) H := pm_P hP 3 [0, 2, 1] rfl
  have hD : va_D A (oX9 mo zs zv vn zl zk zt vl vh zg zi zw vg zo ze vc vr vt vo (bI vm) vp va vb vd vq zd vz :: aI cI zs 28 gs :: aI cI zg 200 gg :: X) := pm_D hD 3 [0, 2, 1] rfl rfl rfl
  exact W.iret (v := (gg (20 * S.2.2.1.2 + S.2.2.1.1))) hx hb hr (fun t9 ht9 hW9 => ⟨⟨(gg (20 * S.2.2.1.2 + S.2.2.1.1)), (), rfl, rfl, by rw [ht9]; exact hP, hD⟩, hS.F ht9⟩) hS.2.2 dX9_ownLedge_18
set_option maxHeartbeats 4000000 in
set_option maxRecDepth 100000 in
theorem n_greatestRun (l : Launch) (D : va_G) (cI cZ cW cJ : ClassId) (A : Nat → Prop) (X : va_W) (mo zs zv zl zk zt zg zi zw zo ze zd : Nat) (vn vl vh vg vc vr vt vo vp va vb vd vq : Int32) (vm : Bool) (vz : Int64) (gs : Nat → Int32) (S : KS) (xc xr xd : Int32) (hS0 : AbsM S gs) : Met l yX9_greatestRun wsX9_greatestRun ({ frames := 4, cells := 0, slots := 0, locals := 87 }) (va_Pc [.ref mo, .int xc, .int xr, .int xd] (wd D (tyL cI cZ cW cJ) A (oX9 mo zs zv vn zl zk zt vl vh zg zi zw vg zo ze vc vr vt vo (bI vm) vp va vb vd vq zd vz :: aI cI zs 28 gs :: X))) (va_Qi (fun (r : Int32) (u : Unit) => r = grB (Bk S.1) xc xr xd) (fun (u : Unit) t => wq D A (oX9 mo zs zv vn zl zk zt vl vh zg zi zw vg zo ze vc vr vt vo (bI vm) vp va vb vd vq zd vz :: aI cI zs 28 gs :: X) t) A) 0 0 A := by
  refine Met.ofW (cc := cX9_greatestRun) (maxL := 5) (ret := (some .int)) (by decide) rfl ?_
  intro p e s m args below meth c s₁ B hml hv
  obtain ⟨rfl, hsz9, hP, hK, hD, hN⟩ := hv
  have hx := B.exec
  have hb := B.bytes
  have hr := B.returns
  have hts := atoms_spec (ws := wsX9_greatestRun) B.pre
  have hown : s.vm.findClass RX9 = some m.cls := findClass_of_methodNamed B.named
  have hlocks := B.notSynchronized
  have CF : CallFix p m c cX9_greatestRun 5 s _ wsX9_greatestRun RX9 := ⟨hx, hb, hml, hown, hts⟩
  have hA : ∀ q : Nat, s.heap.size ≤ q → A q := hsz9
  have hS : va_S A s.heap s.heap [] := va_S.rf
  have hl := lv_entry ([.ref mo, .int xc, .int xr, .int xd]) (n := 5) (Nat.le_of_ble_eq_true rfl)
  rw [lg_entry_eq]
  generalize (lg_sl ([.ref mo, .int xc, .int xr, .int xd]) ++ List.replicate (5 - (lg_sl ([.ref mo, .int xc, .int xr, .int xd])).length) Slot.unset).toArray = ls at hl ⊢
  have hl : lv_has ls 5 [(0, .ref mo), (1, .int xc), (2, .int xr), (3, .int xd)] := hl
  show W p l e ({ frames := 4, cells := 0, slots := 0, locals := 87 } : Room) s m (([.ref mo, .int xc, .int xr, .int xd] : List Value).toArray) below meth c s.heap [] 0 0 (MQ below (va_Qi (fun (r : Int32) (u : Unit) => r = grB (Bk S.1) xc xr xd) (fun (u : Unit) t => wq D A (oX9 mo zs zv vn zl zk zt vl vh zg zi zw vg zo ze vc vr vt vo (bI vm) vp va vb vd vq zd vz :: aI cI zs 28 gs :: X) t) A) (([.ref mo, .int xc, .int xr, .int xd] : List Value).toArray) s 0 0 A) (F0 m 0 ls [])
  refine lv_aload_n hx hb dX9_greatestRun_0 rfl (lv_at hl 0 rfl) ?_
  refine lv_iload_n hx hb dX9_greatestRun_1 rfl (lv_at hl 1 rfl) ?_
  refine lv_iload_n hx hb dX9_greatestRun_2 rfl (lv_at hl 2 rfl) ?_
  refine cV_i CF hK hN hA hS (cut_of 2 [0, 1] hP hD rfl rfl rfl) (n_canStand l D cI cZ cW cJ A (X) mo zs zv zl zk zt zg zi zw zo ze zd vn vl vh vg vc vr vt vo vp va vb vd vq vm vz gs S xc xr hS0) (cwV 2 hts gX9_greatestRun_X9_canStand rfl rfl rfl (by decide +kernel) ⟨Nat.le_of_ble_eq_true rfl, Nat.le_of_ble_eq_true rfl⟩) (As := [.int xc, .int xr]) (rest := []) (ci := 9) (q0 := 0) rfl rfl rfl hl.1 rfl (Nat.le_of_ble_eq_true rfl) dX9_greatestRun_3 ⟨Nat.le_of_ble_eq_true rfl, Nat.le_of_ble_eq_true rfl⟩ (fun r_3 _ H locs hq hP hD hS => ?_)
  have hq : r_3 = bI (stB (Bk S.1) xc xr) := hq
  subst hq
  have hP : va_P D vwCl (oX9 mo zs zv vn zl zk zt vl vh zg zi zw vg zo ze vc vr vt vo (bI vm) vp va vb vd vq zd vz :: aI cI zs 28 gs :: X) H := pm_P hP 2 [0, 1] rfl
  have hD : va_D A (oX9 mo zs zv vn zl zk zt vl vh zg zi zw vg zo ze vc vr vt vo (bI vm) vp va vb vd vq zd vz :: aI cI zs 28 gs :: X) := pm_D hD 2 [0, 1] rfl rfl rfl
  refine lv_if_ne (tgt := 11) hx hb dX9_greatestRun_6 (by decide) (fun c_6 => ?_) (fun c_6 => ?_)
  · refine lv_iconst (v := 0) hx hb dX9_greatestRun_11 (by decide) ?_
    refine lv_istore (lv' := [(4, .int 0), (0, .ref mo), (1, .int xc), (2, .int xr), (3, .int xd)]) hx hb dX9_greatestRun_12 hl (by decide) rfl (fun ls hl => ?_)
    refine lv_iload hx hb dX9_greatestRun_14 (lv_at hl 0 rfl) ?_
    refine lv_iconst (v := 3) hx hb dX9_greatestRun_16 (by decide) ?_
    have c_17 : ¬ (3 : Int32) ≤ 0 := by decide
    refine lv_icmp_ge (tgt := 42) hx hb dX9_greatestRun_17 (by decide) (fun q => absurd q c_17) (fun _ => ?_)
    refine lv_aload_n hx hb dX9_greatestRun_20 rfl (lv_at hl 1 rfl) ?_
    refine lv_iload_n hx hb dX9_greatestRun_21 rfl (lv_at hl 2 rfl) ?_
    refine lv_iload_n hx hb dX9_greatestRun_22 rfl (lv_at hl 4 rfl) ?_
    refine lv_iload hx hb dX9_greatestRun_23 (lv_at hl 0 rfl) ?_
    refine lv_iconst (v := 1) hx hb dX9_greatestRun_25 (by decide) ?_
    refine lv_iadd hx hb dX9_greatestRun_26 ?_
    refine top_i (y := 1) (by decide) ?_
    refine lv_imul hx hb dX9_greatestRun_27 ?_
    refine top_i (y := (1 * xd)) (Int32.mul_comm _ _) ?_
    refine lv_isub hx hb dX9_greatestRun_28 ?_
    refine lv_iload_n hx hb dX9_greatestRun_29 rfl (lv_at hl 3 rfl) ?_
    refine cV_i CF hK hN hA hS (cut_of 2 [0, 1] hP hD rfl rfl rfl) (n_canStand l D cI cZ cW cJ A (X) mo zs zv zl zk zt zg zi zw zo ze zd vn vl vh vg vc vr vt vo vp va vb vd vq vm vz gs S (xc - (1 * xd)) xr hS0) (cwV 2 hts gX9_greatestRun_X9_canStand rfl rfl rfl (by decide +kernel) ⟨Nat.le_of_ble_eq_true rfl, Nat.le_of_ble_eq_true rfl⟩) (As := [.int (xc - (1 * xd)), .int xr]) (rest := []) (ci := 9) (q0 := 0) rfl rfl rfl hl.1 rfl (Nat.le_of_ble_eq_true rfl) dX9_greatestRun_30 ⟨Nat.le_of_ble_eq_true rfl, Nat.le_of_ble_eq_true rfl⟩ (fun r_30 _ H locs hq hP hD hS => ?_)
    have hq : r_30 = bI (stB (Bk S.1) (xc - (1 * xd)) xr) := hq
    subst hq
    have hP : va_P D vwCl (oX9 mo zs zv vn zl zk zt vl vh zg zi zw vg zo ze vc vr vt vo (bI vm) vp va vb vd vq zd vz :: aI cI zs 28 gs :: X) H := pm_P hP 2 [0, 1] rfl
    have hD : va_D A (oX9 mo zs zv vn zl zk zt vl vh zg zi zw vg zo ze vc vr vt vo (bI vm) vp va vb vd vq zd vz :: aI cI zs 28 gs :: X) := pm_D hD 2 [0, 1] rfl rfl rfl
    refine lv_if_eq (tgt := 42) hx hb dX9_greatestRun_33 (by decide) (fun c_33 => ?_) (fun c_33 => ?_)
    · refine lv_iload hx hb dX9_greatestRun_42 (lv_at hl 0 rfl) ?_
      exact W.iret (v := 0) hx hb hr (fun t9 ht9 hW9 => ⟨⟨0, (), rfl, by simp only [bI_t, bI_nt, Bool.not_eq_true, Bool.not_eq_false] at c_6 c_33; simp only [grB, c_6, c_33, reduceCtorEq, if_true, if_false], by rw [ht9]; exact hP, hD⟩, hS.F ht9⟩) hS.2.2 dX9_greatestRun_44
    · refine lv_iinc (v := 1) (lv' := [(4, .int 1), (0, .ref mo), (1, .int xc), (2, .int xr), (3, .int xd)]) hx hb dX9_greatestRun_36 hl (k := 0) rfl (by decide) (by decide) rfl (fun ls hl => ?_)
      refine lv_goto (tgt := 14) hx hb dX9_greatestRun_39 (by decide) ?_
      refine lv_iload hx hb dX9_greatestRun_14 (lv_at hl 0 rfl) ?_
      refine lv_iconst (v := 3) hx hb dX9_greatestRun_16 (by decide) ?_
      have c_17 : ¬ (3 : Int32) ≤ 1 := by decide
      refine lv_icmp_ge (tgt := 42) hx hb dX9_greatestRun_17 (by decide) (fun q => absurd q c_17) (fun _ => ?_)
      refine lv_aload_n hx hb dX9_greatestRun_20 rfl (lv_at hl 1 rfl) ?_
      refine lv_iload_n hx hb dX9_greatestRun_21 rfl (lv_at hl 2 rfl) ?_
      refine lv_iload_n hx hb dX9_greatestRun_22 rfl (lv_at hl 4 rfl) ?_
      refine lv_iload hx hb dX9_greatestRun_23 (lv_at hl 0 rfl) ?_
      refine lv_iconst (v := 1) hx hb dX9_greatestRun_25 (by decide) ?_
      refine lv_iadd hx hb dX9_greatestRun_26 ?_
      refine top_i (y := 2) (by decide) ?_
      refine lv_imul hx hb dX9_greatestRun_27 ?_
      refine top_i (y := (2 * xd)) (Int32.mul_comm _ _) ?_
      refine lv_isub hx hb dX9_greatestRun_28 ?_
      refine lv_iload_n hx hb dX9_greatestRun_29 rfl (lv_at hl 3 rfl) ?_
      refine cV_i CF hK hN hA hS (cut_of 2 [0, 1] hP hD rfl rfl rfl) (n_canStand l D cI cZ cW cJ A (X) mo zs zv zl zk zt zg zi zw zo ze zd vn vl vh vg vc vr vt vo vp va vb vd vq vm vz gs S (xc - (2 * xd)) xr hS0) (cwV 2 hts gX9_greatestRun_X9_canStand rfl rfl rfl (by decide +kernel) ⟨Nat.le_of_ble_eq_true rfl, Nat.le_of_ble_eq_true rfl⟩) (As := [.int (xc - (2 * xd)), .int xr]) (rest := []) (ci := 9) (q0 := 0) rfl rfl rfl hl.1 rfl (Nat.le_of_ble_eq_true rfl) dX9_greatestRun_30 ⟨Nat.le_of_ble_eq_true rfl, Nat.le_of_ble_eq_true rfl⟩ (fun r_30 _ H locs hq hP hD hS => ?_)
      have hq : r_30 = bI (stB (Bk S.1) (xc - (2 * xd)) xr) := hq
      subst hq
      have hP : va_P D vwCl (oX9 mo zs zv vn zl zk zt vl vh zg zi zw vg zo ze vc vr vt vo (bI vm) vp va vb vd vq zd vz :: aI cI zs 28 gs :: X) H := pm_P hP 2 [0, 1] rfl
      have hD : va_D A (oX9 mo zs zv vn zl zk zt vl vh zg zi zw vg zo ze vc vr vt vo (bI vm) vp va vb vd vq zd vz :: aI cI zs 28 gs :: X) := pm_D hD 2 [0, 1] rfl rfl rfl
      refine lv_if_eq (tgt := 42) hx hb dX9_greatestRun_33 (by decide) (fun c_33' => ?_) (fun c_33' => ?_)
      · refine lv_iload hx hb dX9_greatestRun_42 (lv_at hl 0 rfl) ?_
        exact W.iret (v := 1) hx hb hr (fun t9 ht9 hW9 => ⟨⟨1, (), rfl, by simp only [bI_t, bI_nt, Bool.not_eq_true, Bool.not_eq_false] at c_6 c_33 c_33'; simp only [grB, c_6, c_33, c_33', reduceCtorEq, if_true, if_false], by rw [ht9]; exact hP, hD⟩, hS.F ht9⟩) hS.2.2 dX9_greatestRun_44
      · refine lv_iinc (v := 2) (lv' := [(4, .int 2), (0, .ref mo), (1, .int xc), (2, .int xr), (3, .int xd)]) hx hb dX9_greatestRun_36 hl (k := 0) rfl (by decide) (by decide) rfl (fun ls hl => ?_)
        refine lv_goto (tgt := 14) hx hb dX9_greatestRun_39 (by decide) ?_
        refine lv_iload hx hb dX9_greatestRun_14 (lv_at hl 0 rfl) ?_
        refine lv_iconst (v := 3) hx hb dX9_greatestRun_16 (by decide) ?_
        have c_17 : ¬ (3 : Int32) ≤ 2 := by decide
        refine lv_icmp_ge (tgt := 42) hx hb dX9_greatestRun_17 (by decide) (fun q => absurd q c_17) (fun _ => ?_)
        refine lv_aload_n hx hb dX9_greatestRun_20 rfl (lv_at hl 1 rfl) ?_
        refine lv_iload_n hx hb dX9_greatestRun_21 rfl (lv_at hl 2 rfl) ?_
        refine lv_iload_n hx hb dX9_greatestRun_22 rfl (lv_at hl 4 rfl) ?_
        refine lv_iload hx hb dX9_greatestRun_23 (lv_at hl 0 rfl) ?_
        refine lv_iconst (v := 1) hx hb dX9_greatestRun_25 (by decide) ?_
        refine lv_iadd hx hb dX9_greatestRun_26 ?_
        refine top_i (y := 3) (by decide) ?_
        refine lv_imul hx hb dX9_greatestRun_27 ?_
        refine top_i (y := (3 * xd)) (Int32.mul_comm _ _) ?_
        refine lv_isub hx hb dX9_greatestRun_28 ?_
        refine lv_iload_n hx hb dX9_greatestRun_29 rfl (lv_at hl 3 rfl) ?_
        refine cV_i CF hK hN hA hS (cut_of 2 [0, 1] hP hD rfl rfl rfl) (n_canStand l D cI cZ cW cJ A (X) mo zs zv zl zk zt zg zi zw zo ze zd vn vl vh vg vc vr vt vo vp va vb vd vq vm vz gs S (xc - (3 * xd)) xr hS0) (cwV 2 hts gX9_greatestRun_X9_canStand rfl rfl rfl (by decide +kernel) ⟨Nat.le_of_ble_eq_true rfl, Nat.le_of_ble_eq_true rfl⟩) (As := [.int (xc - (3 * xd)), .int xr]) (rest := []) (ci := 9) (q0 := 0) rfl rfl rfl hl.1 rfl (Nat.le_of_ble_eq_true rfl) dX9_greatestRun_30 ⟨Nat.le_of_ble_eq_true rfl, Nat.le_of_ble_eq_true rfl⟩ (fun r_30 _ H locs hq hP hD hS => ?_)
        have hq : r_30 = bI (stB (Bk S.1) (xc - (3 * xd)) xr) := hq
        subst hq
        have hP : va_P D vwCl (oX9 mo zs zv vn zl zk zt vl vh zg zi zw vg zo ze vc vr vt vo (bI vm) vp va vb vd vq zd vz :: aI cI zs 28 gs :: X) H := pm_P hP 2 [0, 1] rfl
        have hD : va_D A (oX9 mo zs zv vn zl zk zt vl vh zg zi zw vg zo ze vc vr vt vo (bI vm) vp va vb vd vq zd vz :: aI cI zs 28 gs :: X) := pm_D hD 2 [0, 1] rfl rfl rfl
        refine lv_if_eq (tgt := 42) hx hb dX9_greatestRun_33 (by decide) (fun c_33'' => ?_) (fun c_33'' => ?_)
        · refine lv_iload hx hb dX9_greatestRun_42 (lv_at hl 0 rfl) ?_
          exact W.iret (v := 2) hx hb hr (fun t9 ht9 hW9 => ⟨⟨2, (), rfl, by simp only [bI_t, bI_nt, Bool.not_eq_true, Bool.not_eq_false] at c_6 c_33 c_33' c_33''; simp only [grB, c_6, c_33, c_33', c_33'', reduceCtorEq, if_true, if_false], by rw [ht9]; exact hP, hD⟩, hS.F ht9⟩) hS.2.2 dX9_greatestRun_44
        · refine lv_iinc (v := 3) (lv' := [(4, .int 3), (0, .ref mo), (1, .int xc), (2, .int xr), (3, .int xd)]) hx hb dX9_greatestRun_36 hl (k := 0) rfl (by decide) (by decide) rfl (fun ls hl => ?_)
          refine lv_goto (tgt := 14) hx hb dX9_greatestRun_39 (by decide) ?_
          refine lv_iload hx hb dX9_greatestRun_14 (lv_at hl 0 rfl) ?_
          refine lv_iconst (v := 3) hx hb dX9_greatestRun_16 (by decide) ?_
          have c_17 : (3 : Int32) ≤ 3 := by decide
          refine lv_icmp_ge (tgt := 42) hx hb dX9_greatestRun_17 (by decide) (fun _ => ?_) (fun q => absurd c_17 q)
          refine lv_iload hx hb dX9_greatestRun_42 (lv_at hl 0 rfl) ?_
          exact W.iret (v := 3) hx hb hr (fun t9 ht9 hW9 => ⟨⟨3, (), rfl, by simp only [bI_t, bI_nt, Bool.not_eq_true, Bool.not_eq_false] at c_6 c_33 c_33' c_33''; simp only [grB, c_6, c_33, c_33', c_33'', reduceCtorEq, if_true, if_false], by rw [ht9]; exact hP, hD⟩, hS.F ht9⟩) hS.2.2 dX9_greatestRun_44
  · refine lv_iconst (v := (-1)) hx hb dX9_greatestRun_9 (by decide) ?_
    exact W.iret (v := (-1)) hx hb hr (fun t9 ht9 hW9 => ⟨⟨(-1), (), rfl, by simp only [bI_t, bI_nt, Bool.not_eq_true, Bool.not_eq_false] at c_6; simp only [grB, c_6, reduceCtorEq, if_true, if_false], by rw [ht9]; exact hP, hD⟩, hS.F ht9⟩) hS.2.2 dX9_greatestRun_10
set_option maxHeartbeats 4000000 in
set_option maxRecDepth 100000 in
theorem n_goUp (l : Launch) (D : va_G) (cI cZ cW cJ : ClassId) (A : Nat → Prop) (X : va_W) (mo zs zv zl zk zt zg zi zw zo ze zd : Nat) (vn vl vh vg vc vt vp va vb vd vq : Int32) (vm : Bool) (vz : Int64) (gs : Nat → Int32) (S : KS) (jr jo : Nat) (xr : Int32) (hS0 : AbsM S gs) (hjr : jr ≤ jo) (hjo : jo < 1000) (hxr : xr.toNatClampNeg < 1000) : Met l yX9_goUp wsX9_goUp ({ frames := 3, cells := 0, slots := 0, locals := 65 }) (va_Pc [.ref mo, .int xr] (wd D (tyL cI cZ cW cJ) A (oX9 mo zs zv vn zl zk zt vl vh zg zi zw vg zo ze vc (nI jr) vt (nI jo) (bI vm) vp va vb vd vq zd vz :: aI cI zs 28 gs :: X))) (va_Qi (fun (r : Int32) (u : Nat × Nat) => r = (if (upF (Bk S.1) vc xr.toNatClampNeg (nI jr)).2 = true then 0 else xr) ∧ nI u.1 = (upF (Bk S.1) vc xr.toNatClampNeg (nI jr)).1 ∧ u.1 ≤ jr + xr.toNatClampNeg ∧ u.2 = max jo u.1) (fun (u : Nat × Nat) t => wq D A (oX9 mo zs zv vn zl zk zt vl vh zg zi zw vg zo ze vc (nI u.1) vt (nI u.2) (bI vm) vp va vb vd vq zd vz :: aI cI zs 28 gs :: X) t) A) 0 0 A := by
  refine Met.ofW (cc := cX9_goUp) (maxL := 3) (ret := (some .int)) (by decide) rfl ?_
  intro p e s m args below meth c s₁ B hml hv
  obtain ⟨rfl, hsz9, hP, hK, hD, hN⟩ := hv
  have hx := B.exec
  have hb := B.bytes
  have hr := B.returns
  have hts := atoms_spec (ws := wsX9_goUp) B.pre
  have hown : s.vm.findClass RX9 = some m.cls := findClass_of_methodNamed B.named
  have hlocks := B.notSynchronized
  have CF : CallFix p m c cX9_goUp 3 s _ wsX9_goUp RX9 := ⟨hx, hb, hml, hown, hts⟩
  have hA : ∀ q : Nat, s.heap.size ≤ q → A q := hsz9
  have hS : va_S A s.heap s.heap [] := va_S.rf
  have hiX9 : ∀ w ∈ u_ws RX9 TX9 26, w ∈ wsX9_goUp := fun _ h => List.mem_cons_of_mem _ (List.mem_append_right _ (h))
  have hl := lv_entry ([.ref mo, .int xr]) (n := 3) (Nat.le_of_ble_eq_true rfl)
  rw [lg_entry_eq]
  generalize (lg_sl ([.ref mo, .int xr]) ++ List.replicate (3 - (lg_sl ([.ref mo, .int xr])).length) Slot.unset).toArray = ls at hl ⊢
  have hl : lv_has ls 3 [(0, .ref mo), (1, .int xr)] := hl
  show W p l e ({ frames := 3, cells := 0, slots := 0, locals := 65 } : Room) s m (([.ref mo, .int xr] : List Value).toArray) below meth c s.heap [] 0 0 (MQ below (va_Qi (fun (r : Int32) (u : Nat × Nat) => r = (if (upF (Bk S.1) vc xr.toNatClampNeg (nI jr)).2 = true then 0 else xr) ∧ nI u.1 = (upF (Bk S.1) vc xr.toNatClampNeg (nI jr)).1 ∧ u.1 ≤ jr + xr.toNatClampNeg ∧ u.2 = max jo u.1) (fun (u : Nat × Nat) t => wq D A (oX9 mo zs zv vn zl zk zt vl vh zg zi zw vg zo ze vc (nI u.1) vt (nI u.2) (bI vm) vp va vb vd vq zd vz :: aI cI zs 28 gs :: X) t) A) (([.ref mo, .int xr] : List Value).toArray) s 0 0 A) (F0 m 0 ls [])
  refine lv_iconst (v := 0) hx hb dX9_goUp_0 (by decide) ?_
  refine lv_istore_n (lv' := [(2, .int 0), (0, .ref mo), (1, .int xr)]) hx hb dX9_goUp_1 rfl hl (by decide) rfl (fun ls hl => ?_)
  have loop_2 : ∀ (nfu : Nat) (k j o : Nat) (hn_2 : xr.toNatClampNeg - k < nfu) (hk : k ≤ xr.toNatClampNeg) (hjo9 : o = max jo j ∧ j = jr + k) (hv : upF (Bk S.1) vc (xr.toNatClampNeg - k) (nI j) = upF (Bk S.1) vc xr.toNatClampNeg (nI jr)) (H : Heap) (locs : List Loc) (hP : va_P D vwCl (oX9 mo zs zv vn zl zk zt vl vh zg zi zw vg zo ze vc (nI j) vt (nI o) (bI vm) vp va vb vd vq zd vz :: aI cI zs 28 gs :: X) H) (hD : va_D A (oX9 mo zs zv vn zl zk zt vl vh zg zi zw vg zo ze vc (nI j) vt (nI o) (bI vm) vp va vb vd vq zd vz :: aI cI zs 28 gs :: X)) (hS : va_S A s.heap H locs) (ls : Array Slot) (hl : lv_has ls 3 [(2, .int (nI k)), (0, .ref mo), (1, .int xr)]), W p l e ({ frames := 3, cells := 0, slots := 0, locals := 65 } : Room) s m (([.ref mo, .int xr] : List Value).toArray) below meth c H locs 0 0 (MQ below (va_Qi (fun (r : Int32) (u : Nat × Nat) => r = (if (upF (Bk S.1) vc xr.toNatClampNeg (nI jr)).2 = true then 0 else xr) ∧ nI u.1 = (upF (Bk S.1) vc xr.toNatClampNeg (nI jr)).1 ∧ u.1 ≤ jr + xr.toNatClampNeg ∧ u.2 = max jo u.1) (fun (u : Nat × Nat) t => wq D A (oX9 mo zs zv vn zl zk zt vl vh zg zi zw vg zo ze vc (nI u.1) vt (nI u.2) (bI vm) vp va vb vd vq zd vz :: aI cI zs 28 gs :: X) t) A) (([.ref mo, .int xr] : List Value).toArray) s 0 0 A) (F0 m 2 ls []) := by
    intro nfu
    induction nfu with
    | zero => intro k j o hn_2; exact absurd hn_2 (Nat.not_lt_zero _)
    | succ nfu ih_2 =>
      intro k j o hn_2 hk hjo9 hv H locs hP hD hS ls hl
      refine lv_iload_n hx hb dX9_goUp_2 rfl (lv_at hl 0 rfl) ?_
      refine lv_iload_n hx hb dX9_goUp_3 rfl (lv_at hl 2 rfl) ?_
      refine lv_icmp_ge (tgt := 68) hx hb dX9_goUp_4 (by decide) (fun c_4 => ?_) (fun c_4 => ?_)
      · refine lv_iload_n hx hb dX9_goUp_68 rfl (lv_at hl 2 rfl) ?_
        have hU : upF (Bk S.1) vc xr.toNatClampNeg (nI jr) = (nI j, false) := by rw [← hv, show xr.toNatClampNeg - k = 0 by have h : ¬ k < xr.toNatClampNeg := fun q => Int32.not_le.mpr ((lt_cl (x := xr) (i := k) (by omega)).mpr q) c_4; omega]; rfl
        exact W.iret (v := xr) hx hb hr (fun t9 ht9 hW9 => ⟨⟨xr, (j, o), rfl, by rw [hU]; exact ⟨rfl, rfl, by omega, hjo9.1⟩, by rw [ht9]; exact hP, hD⟩, hS.F ht9⟩) hS.2.2 dX9_goUp_69
      · have hk2 : k < xr.toNatClampNeg := (lt_cl (x := xr) (i := k) (by omega)).mp (Int32.not_le.mp c_4)
        refine lv_aload_n hx hb dX9_goUp_7 rfl (lv_at hl 1 rfl) ?_
        refine lv_aload_n hx hb dX9_goUp_8 rfl (lv_at hl 1 rfl) ?_
        refine va_get (D := D) (ci := 9) (v := .int vc) (C := RX9) (T := TX9) (N := 26) hx hb hts hiX9 hown hK hP 0 rfl rfl 14 (by decide) (hts (.fieldLink RX9 76 "LedgeLeapsModel" "column" "I") (List.mem_of_getElem? (i := 1) rfl)) (fun _ h9 => h9) rfl dX9_goUp_9 ?_
        refine lv_aload_n hx hb dX9_goUp_12 rfl (lv_at hl 1 rfl) ?_
        refine va_get (D := D) (ci := 9) (v := .int (nI j)) (C := RX9) (T := TX9) (N := 26) hx hb hts hiX9 hown hK hP 0 rfl rfl 15 (by decide) (hts (.fieldLink RX9 79 "LedgeLeapsModel" "row" "I") (List.mem_of_getElem? (i := 2) rfl)) (fun _ h9 => h9) rfl dX9_goUp_13 ?_
        refine lv_iconst (v := 1) hx hb dX9_goUp_16 (by decide) ?_
        refine lv_iadd hx hb dX9_goUp_17 ?_
        refine top_i (y := (nI (j + 1))) (nI_1 j) ?_
        refine cV_i CF hK hN hA hS (cut_of 2 [0, 1] hP hD rfl rfl rfl) (n_isBlock l D cI cZ cW cJ A (X) mo zs zv zl zk zt zg zi zw zo ze zd vn vl vh vg vc (nI j) vt (nI o) vp va vb vd vq vm vz gs S vc (nI (j + 1)) hS0) (cwV 2 hts gX9_goUp_X9_isBlock rfl rfl rfl (by decide +kernel) ⟨Nat.le_of_ble_eq_true rfl, Nat.le_of_ble_eq_true rfl⟩) (As := [.int vc, .int (nI (j + 1))]) (rest := []) (ci := 9) (q0 := 0) rfl rfl rfl hl.1 rfl (Nat.le_of_ble_eq_true rfl) dX9_goUp_18 ⟨Nat.le_of_ble_eq_true rfl, Nat.le_of_ble_eq_true rfl⟩ (fun r_18 _ H locs hq hP hD hS => ?_)
        have hq : r_18 = bI (Bk S.1 vc (nI (j + 1))) := hq
        subst hq
        have hP : va_P D vwCl (oX9 mo zs zv vn zl zk zt vl vh zg zi zw vg zo ze vc (nI j) vt (nI o) (bI vm) vp va vb vd vq zd vz :: aI cI zs 28 gs :: X) H := pm_P hP 2 [0, 1] rfl
        have hD : va_D A (oX9 mo zs zv vn zl zk zt vl vh zg zi zw vg zo ze vc (nI j) vt (nI o) (bI vm) vp va vb vd vq zd vz :: aI cI zs 28 gs :: X) := pm_D hD 2 [0, 1] rfl rfl rfl
        refine lv_if_eq (tgt := 26) hx hb dX9_goUp_21 (by decide) (fun c_21 => ?_) (fun c_21 => ?_)
        · refine lv_aload_n hx hb dX9_goUp_26 rfl (lv_at hl 1 rfl) ?_
          refine lv_dup hx hb dX9_goUp_27 rfl ?_
          refine va_get (D := D) (ci := 9) (v := .int (nI j)) (C := RX9) (T := TX9) (N := 26) hx hb hts hiX9 hown hK hP 0 rfl rfl 15 (by decide) (hts (.fieldLink RX9 79 "LedgeLeapsModel" "row" "I") (List.mem_of_getElem? (i := 2) rfl)) (fun _ h9 => h9) rfl dX9_goUp_28 ?_
          refine lv_iconst (v := 1) hx hb dX9_goUp_31 (by decide) ?_
          refine lv_iadd hx hb dX9_goUp_32 ?_
          refine top_i (y := (nI (j + 1))) (nI_1 j) ?_
          refine va_put (D := D) (ci := 9) (v := .int (nI (j + 1))) (ty := .int) (C := RX9) (T := TX9) (N := 26) hx hb hts hiX9 tyX9 tyX9_ok nmX9 hown hK hP hD hS 0 rfl rfl 15 (by decide) (hts (.fieldLink RX9 79 "LedgeLeapsModel" "row" "I") (List.mem_of_getElem? (i := 2) rfl)) (fun _ h9 => h9) rfl (by decide +kernel) rfl rfl (Nat.le_of_ble_eq_true rfl) dX9_goUp_33 (fun H locs hP hD hS => ?_)
          have hP : va_P D vwCl (oX9 mo zs zv vn zl zk zt vl vh zg zi zw vg zo ze vc (nI (j + 1)) vt (nI o) (bI vm) vp va vb vd vq zd vz :: aI cI zs 28 gs :: X) H := hP
          have hD : va_D A (oX9 mo zs zv vn zl zk zt vl vh zg zi zw vg zo ze vc (nI (j + 1)) vt (nI o) (bI vm) vp va vb vd vq zd vz :: aI cI zs 28 gs :: X) := hD
          refine lv_aload_n hx hb dX9_goUp_36 rfl (lv_at hl 1 rfl) ?_
          refine lv_aload_n hx hb dX9_goUp_37 rfl (lv_at hl 1 rfl) ?_
          refine va_get (D := D) (ci := 9) (v := .int (nI (j + 1))) (C := RX9) (T := TX9) (N := 26) hx hb hts hiX9 hown hK hP 0 rfl rfl 15 (by decide) (hts (.fieldLink RX9 79 "LedgeLeapsModel" "row" "I") (List.mem_of_getElem? (i := 2) rfl)) (fun _ h9 => h9) rfl dX9_goUp_38 ?_
          refine lv_aload_n hx hb dX9_goUp_41 rfl (lv_at hl 1 rfl) ?_
          refine va_get (D := D) (ci := 9) (v := .int (nI o)) (C := RX9) (T := TX9) (N := 26) hx hb hts hiX9 hown hK hP 0 rfl rfl 17 (by decide) (hts (.fieldLink RX9 82 "LedgeLeapsModel" "top" "I") (List.mem_of_getElem? (i := 3) rfl)) (fun _ h9 => h9) rfl dX9_goUp_42 ?_
          refine lv_icmp_le (tgt := 55) hx hb dX9_goUp_45 (by decide) (fun c_45 => ?_) (fun c_45 => ?_)
          · refine lv_aload_n hx hb dX9_goUp_55 rfl (lv_at hl 1 rfl) ?_
            refine va_get (D := D) (ci := 9) (v := .int (nI o)) (C := RX9) (T := TX9) (N := 26) hx hb hts hiX9 hown hK hP 0 rfl rfl 17 (by decide) (hts (.fieldLink RX9 82 "LedgeLeapsModel" "top" "I") (List.mem_of_getElem? (i := 3) rfl)) (fun _ h9 => h9) rfl dX9_goUp_56 ?_
            refine top_i (y := (nI (max o (j + 1)))) (by have h := (nI_leI (by omega) (by omega)).mp c_45; congr 1; omega) ?_
            refine va_put (D := D) (ci := 9) (v := .int (nI (max o (j + 1)))) (ty := .int) (C := RX9) (T := TX9) (N := 26) hx hb hts hiX9 tyX9 tyX9_ok nmX9 hown hK hP hD hS 0 rfl rfl 17 (by decide) (hts (.fieldLink RX9 82 "LedgeLeapsModel" "top" "I") (List.mem_of_getElem? (i := 3) rfl)) (fun _ h9 => h9) rfl (by decide +kernel) rfl rfl (Nat.le_of_ble_eq_true rfl) dX9_goUp_59 (fun H locs hP hD hS => ?_)
            have hP : va_P D vwCl (oX9 mo zs zv vn zl zk zt vl vh zg zi zw vg zo ze vc (nI (j + 1)) vt (nI (max o (j + 1))) (bI vm) vp va vb vd vq zd vz :: aI cI zs 28 gs :: X) H := hP
            have hD : va_D A (oX9 mo zs zv vn zl zk zt vl vh zg zi zw vg zo ze vc (nI (j + 1)) vt (nI (max o (j + 1))) (bI vm) vp va vb vd vq zd vz :: aI cI zs 28 gs :: X) := hD
            refine lv_iinc (v := (nI (k + 1))) (lv' := [(2, .int (nI (k + 1))), (0, .ref mo), (1, .int xr)]) hx hb dX9_goUp_62 hl (k := 0) rfl (nI_1 k) (by decide) rfl (fun ls hl => ?_)
            refine lv_goto (tgt := 2) hx hb dX9_goUp_65 (by decide) ?_
            exact ih_2 (k + 1) (j + 1) (max o (j + 1)) (by omega) (by omega) (⟨by omega, by omega⟩) (by rw [← hv, show xr.toNatClampNeg - k = (xr.toNatClampNeg - (k + 1)) + 1 by omega, upF, if_neg (by rw [nI_1, bf_c c_21]; decide), nI_1]) _ _ (hP) (hD) hS _ (lv_sub hl [0, 1, 2] rfl)
          · refine lv_aload_n hx hb dX9_goUp_48 rfl (lv_at hl 1 rfl) ?_
            refine va_get (D := D) (ci := 9) (v := .int (nI (j + 1))) (C := RX9) (T := TX9) (N := 26) hx hb hts hiX9 hown hK hP 0 rfl rfl 15 (by decide) (hts (.fieldLink RX9 79 "LedgeLeapsModel" "row" "I") (List.mem_of_getElem? (i := 2) rfl)) (fun _ h9 => h9) rfl dX9_goUp_49 ?_
            refine lv_goto (tgt := 59) hx hb dX9_goUp_52 (by decide) ?_
            refine top_i (y := (nI (max o (j + 1)))) (by have h := (nI_ltI (a := o) (b := j + 1) (by omega) (by omega)).mp (Int32.not_le.mp c_45); congr 1; omega) ?_
            refine va_put (D := D) (ci := 9) (v := .int (nI (max o (j + 1)))) (ty := .int) (C := RX9) (T := TX9) (N := 26) hx hb hts hiX9 tyX9 tyX9_ok nmX9 hown hK hP hD hS 0 rfl rfl 17 (by decide) (hts (.fieldLink RX9 82 "LedgeLeapsModel" "top" "I") (List.mem_of_getElem? (i := 3) rfl)) (fun _ h9 => h9) rfl (by decide +kernel) rfl rfl (Nat.le_of_ble_eq_true rfl) dX9_goUp_59 (fun H locs hP hD hS => ?_)
            have hP : va_P D vwCl (oX9 mo zs zv vn zl zk zt vl vh zg zi zw vg zo ze vc (nI (j + 1)) vt (nI (max o (j + 1))) (bI vm) vp va vb vd vq zd vz :: aI cI zs 28 gs :: X) H := hP
            have hD : va_D A (oX9 mo zs zv vn zl zk zt vl vh zg zi zw vg zo ze vc (nI (j + 1)) vt (nI (max o (j + 1))) (bI vm) vp va vb vd vq zd vz :: aI cI zs 28 gs :: X) := hD
            refine lv_iinc (v := (nI (k + 1))) (lv' := [(2, .int (nI (k + 1))), (0, .ref mo), (1, .int xr)]) hx hb dX9_goUp_62 hl (k := 0) rfl (nI_1 k) (by decide) rfl (fun ls hl => ?_)
            refine lv_goto (tgt := 2) hx hb dX9_goUp_65 (by decide) ?_
            exact ih_2 (k + 1) (j + 1) (max o (j + 1)) (by omega) (by omega) (⟨by omega, by omega⟩) (by rw [← hv, show xr.toNatClampNeg - k = (xr.toNatClampNeg - (k + 1)) + 1 by omega, upF, if_neg (by rw [nI_1, bf_c c_21]; decide), nI_1]) _ _ (hP) (hD) hS _ (lv_sub hl [0, 1, 2] rfl)
        · refine lv_iconst (v := 0) hx hb dX9_goUp_24 (by decide) ?_
          have hU : upF (Bk S.1) vc xr.toNatClampNeg (nI jr) = (nI j, true) := by rw [← hv, show xr.toNatClampNeg - k = (xr.toNatClampNeg - (k + 1)) + 1 by omega, upF, if_pos (by rw [nI_1]; exact bt_c c_21)]
          exact W.iret (v := 0) hx hb hr (fun t9 ht9 hW9 => ⟨⟨0, (j, o), rfl, by rw [hU]; exact ⟨rfl, rfl, by omega, hjo9.1⟩, by rw [ht9]; exact hP, hD⟩, hS.F ht9⟩) hS.2.2 dX9_goUp_25
  exact loop_2 _ 0 jr jo (Nat.lt_succ_self _) (Nat.zero_le _) (⟨by omega, rfl⟩) (rfl) _ _ hP hD hS _ (lv_sub hl [0, 1, 2] rfl)
set_option maxHeartbeats 4000000 in
set_option maxRecDepth 100000 in
theorem n_goDown (l : Launch) (D : va_G) (cI cZ cW cJ : ClassId) (A : Nat → Prop) (X : va_W) (mo zs zv zl zk zt zg zi zw zo ze zd : Nat) (vn vl vh vg vc vr vt vo vp va vb vd vq : Int32) (vm : Bool) (vz : Int64) (gs : Nat → Int32) (S : KS) (xr : Int32) (hS0 : AbsM S gs) (hxr : xr.toNatClampNeg < 1000) : Met l yX9_goDown wsX9_goDown ({ frames := 3, cells := 0, slots := 0, locals := 65 }) (va_Pc [.ref mo, .int xr] (wd D (tyL cI cZ cW cJ) A (oX9 mo zs zv vn zl zk zt vl vh zg zi zw vg zo ze vc vr vt vo (bI vm) vp va vb vd vq zd vz :: aI cI zs 28 gs :: X))) (va_Qi (fun (r : Int32) (u : Int32) => r = bI (downF (Bk S.1) vc xr.toNatClampNeg vr).2 ∧ u = (downF (Bk S.1) vc xr.toNatClampNeg vr).1) (fun (u : Int32) t => wq D A (oX9 mo zs zv vn zl zk zt vl vh zg zi zw vg zo ze vc u vt vo (bI vm) vp va vb vd vq zd vz :: aI cI zs 28 gs :: X) t) A) 0 0 A := by
  refine Met.ofW (cc := cX9_goDown) (maxL := 3) (ret := (some .boolean)) (by decide) rfl ?_
  intro p e s m args below meth c s₁ B hml hv
  obtain ⟨rfl, hsz9, hP, hK, hD, hN⟩ := hv
  have hx := B.exec
  have hb := B.bytes
  have hr := B.returns
  have hts := atoms_spec (ws := wsX9_goDown) B.pre
  have hown : s.vm.findClass RX9 = some m.cls := findClass_of_methodNamed B.named
  have hlocks := B.notSynchronized
  have CF : CallFix p m c cX9_goDown 3 s _ wsX9_goDown RX9 := ⟨hx, hb, hml, hown, hts⟩
  have hA : ∀ q : Nat, s.heap.size ≤ q → A q := hsz9
  have hS : va_S A s.heap s.heap [] := va_S.rf
  have hiX9 : ∀ w ∈ u_ws RX9 TX9 26, w ∈ wsX9_goDown := fun _ h => List.mem_cons_of_mem _ (List.mem_append_right _ (h))
  have hl := lv_entry ([.ref mo, .int xr]) (n := 3) (Nat.le_of_ble_eq_true rfl)
  rw [lg_entry_eq]
  generalize (lg_sl ([.ref mo, .int xr]) ++ List.replicate (3 - (lg_sl ([.ref mo, .int xr])).length) Slot.unset).toArray = ls at hl ⊢
  have hl : lv_has ls 3 [(0, .ref mo), (1, .int xr)] := hl
  show W p l e ({ frames := 3, cells := 0, slots := 0, locals := 65 } : Room) s m (([.ref mo, .int xr] : List Value).toArray) below meth c s.heap [] 0 0 (MQ below (va_Qi (fun (r : Int32) (u : Int32) => r = bI (downF (Bk S.1) vc xr.toNatClampNeg vr).2 ∧ u = (downF (Bk S.1) vc xr.toNatClampNeg vr).1) (fun (u : Int32) t => wq D A (oX9 mo zs zv vn zl zk zt vl vh zg zi zw vg zo ze vc u vt vo (bI vm) vp va vb vd vq zd vz :: aI cI zs 28 gs :: X) t) A) (([.ref mo, .int xr] : List Value).toArray) s 0 0 A) (F0 m 0 ls [])
  refine lv_iconst (v := 0) hx hb dX9_goDown_0 (by decide) ?_
  refine lv_istore_n (lv' := [(2, .int 0), (0, .ref mo), (1, .int xr)]) hx hb dX9_goDown_1 rfl hl (by decide) rfl (fun ls hl => ?_)
  have loop_2 : ∀ (nfu : Nat) (k : Nat) (y : Int32) (hn_2 : xr.toNatClampNeg - k < nfu) (hk : k ≤ xr.toNatClampNeg) (hv : downF (Bk S.1) vc (xr.toNatClampNeg - k) y = downF (Bk S.1) vc xr.toNatClampNeg vr) (H : Heap) (locs : List Loc) (hP : va_P D vwCl (oX9 mo zs zv vn zl zk zt vl vh zg zi zw vg zo ze vc y vt vo (bI vm) vp va vb vd vq zd vz :: aI cI zs 28 gs :: X) H) (hD : va_D A (oX9 mo zs zv vn zl zk zt vl vh zg zi zw vg zo ze vc y vt vo (bI vm) vp va vb vd vq zd vz :: aI cI zs 28 gs :: X)) (hS : va_S A s.heap H locs) (ls : Array Slot) (hl : lv_has ls 3 [(2, .int (nI k)), (0, .ref mo), (1, .int xr)]), W p l e ({ frames := 3, cells := 0, slots := 0, locals := 65 } : Room) s m (([.ref mo, .int xr] : List Value).toArray) below meth c H locs 0 0 (MQ below (va_Qi (fun (r : Int32) (u : Int32) => r = bI (downF (Bk S.1) vc xr.toNatClampNeg vr).2 ∧ u = (downF (Bk S.1) vc xr.toNatClampNeg vr).1) (fun (u : Int32) t => wq D A (oX9 mo zs zv vn zl zk zt vl vh zg zi zw vg zo ze vc u vt vo (bI vm) vp va vb vd vq zd vz :: aI cI zs 28 gs :: X) t) A) (([.ref mo, .int xr] : List Value).toArray) s 0 0 A) (F0 m 2 ls []) := by
    intro nfu
    induction nfu with
    | zero => intro k y hn_2; exact absurd hn_2 (Nat.not_lt_zero _)
    | succ nfu ih_2 =>
      intro k y hn_2 hk hv H locs hP hD hS ls hl
      refine lv_iload_n hx hb dX9_goDown_2 rfl (lv_at hl 0 rfl) ?_
      refine lv_iload_n hx hb dX9_goDown_3 rfl (lv_at hl 2 rfl) ?_
      refine lv_icmp_ge (tgt := 42) hx hb dX9_goDown_4 (by decide) (fun c_4 => ?_) (fun c_4 => ?_)
      · refine lv_iconst (v := 0) hx hb dX9_goDown_42 (by decide) ?_
        exact W.zret (v := 0) (ty := .boolean) hx hb hr (rfl) (fun t9 ht9 hW9 => ⟨⟨0, y, rfl, by rw [← hv, show xr.toNatClampNeg - k = 0 by have h : ¬ k < xr.toNatClampNeg := fun q => Int32.not_le.mpr ((lt_cl (x := xr) (i := k) (by omega)).mpr q) c_4; omega]; exact ⟨rfl, rfl⟩, by rw [ht9]; exact hP, hD⟩, hS.F ht9⟩) hS.2.2 dX9_goDown_43
      · have hk2 : k < xr.toNatClampNeg := (lt_cl (x := xr) (i := k) (by omega)).mp (Int32.not_le.mp c_4)
        refine lv_aload_n hx hb dX9_goDown_7 rfl (lv_at hl 1 rfl) ?_
        refine lv_aload_n hx hb dX9_goDown_8 rfl (lv_at hl 1 rfl) ?_
        refine va_get (D := D) (ci := 9) (v := .int vc) (C := RX9) (T := TX9) (N := 26) hx hb hts hiX9 hown hK hP 0 rfl rfl 14 (by decide) (hts (.fieldLink RX9 76 "LedgeLeapsModel" "column" "I") (List.mem_of_getElem? (i := 1) rfl)) (fun _ h9 => h9) rfl dX9_goDown_9 ?_
        refine lv_aload_n hx hb dX9_goDown_12 rfl (lv_at hl 1 rfl) ?_
        refine va_get (D := D) (ci := 9) (v := .int y) (C := RX9) (T := TX9) (N := 26) hx hb hts hiX9 hown hK hP 0 rfl rfl 15 (by decide) (hts (.fieldLink RX9 79 "LedgeLeapsModel" "row" "I") (List.mem_of_getElem? (i := 2) rfl)) (fun _ h9 => h9) rfl dX9_goDown_13 ?_
        refine lv_iconst (v := 1) hx hb dX9_goDown_16 (by decide) ?_
        refine lv_isub hx hb dX9_goDown_17 ?_
        refine cV_i CF hK hN hA hS (cut_of 2 [0, 1] hP hD rfl rfl rfl) (n_isBlock l D cI cZ cW cJ A (X) mo zs zv zl zk zt zg zi zw zo ze zd vn vl vh vg vc y vt vo vp va vb vd vq vm vz gs S vc (y - 1) hS0) (cwV 2 hts gX9_goDown_X9_isBlock rfl rfl rfl (by decide +kernel) ⟨Nat.le_of_ble_eq_true rfl, Nat.le_of_ble_eq_true rfl⟩) (As := [.int vc, .int (y - 1)]) (rest := []) (ci := 9) (q0 := 0) rfl rfl rfl hl.1 rfl (Nat.le_of_ble_eq_true rfl) dX9_goDown_18 ⟨Nat.le_of_ble_eq_true rfl, Nat.le_of_ble_eq_true rfl⟩ (fun r_18 _ H locs hq hP hD hS => ?_)
        have hq : r_18 = bI (Bk S.1 vc (y - 1)) := hq
        subst hq
        have hP : va_P D vwCl (oX9 mo zs zv vn zl zk zt vl vh zg zi zw vg zo ze vc y vt vo (bI vm) vp va vb vd vq zd vz :: aI cI zs 28 gs :: X) H := pm_P hP 2 [0, 1] rfl
        have hD : va_D A (oX9 mo zs zv vn zl zk zt vl vh zg zi zw vg zo ze vc y vt vo (bI vm) vp va vb vd vq zd vz :: aI cI zs 28 gs :: X) := pm_D hD 2 [0, 1] rfl rfl rfl
        refine lv_if_eq (tgt := 26) hx hb dX9_goDown_21 (by decide) (fun c_21 => ?_) (fun c_21 => ?_)
        · refine lv_aload_n hx hb dX9_goDown_26 rfl (lv_at hl 1 rfl) ?_
          refine lv_dup hx hb dX9_goDown_27 rfl ?_
          refine va_get (D := D) (ci := 9) (v := .int y) (C := RX9) (T := TX9) (N := 26) hx hb hts hiX9 hown hK hP 0 rfl rfl 15 (by decide) (hts (.fieldLink RX9 79 "LedgeLeapsModel" "row" "I") (List.mem_of_getElem? (i := 2) rfl)) (fun _ h9 => h9) rfl dX9_goDown_28 ?_
          refine lv_iconst (v := 1) hx hb dX9_goDown_31 (by decide) ?_
          refine lv_isub hx hb dX9_goDown_32 ?_
          refine va_put (D := D) (ci := 9) (v := .int (y - 1)) (ty := .int) (C := RX9) (T := TX9) (N := 26) hx hb hts hiX9 tyX9 tyX9_ok nmX9 hown hK hP hD hS 0 rfl rfl 15 (by decide) (hts (.fieldLink RX9 79 "LedgeLeapsModel" "row" "I") (List.mem_of_getElem? (i := 2) rfl)) (fun _ h9 => h9) rfl (by decide +kernel) rfl rfl (Nat.le_of_ble_eq_true rfl) dX9_goDown_33 (fun H locs hP hD hS => ?_)
          have hP : va_P D vwCl (oX9 mo zs zv vn zl zk zt vl vh zg zi zw vg zo ze vc (y - 1) vt vo (bI vm) vp va vb vd vq zd vz :: aI cI zs 28 gs :: X) H := hP
          have hD : va_D A (oX9 mo zs zv vn zl zk zt vl vh zg zi zw vg zo ze vc (y - 1) vt vo (bI vm) vp va vb vd vq zd vz :: aI cI zs 28 gs :: X) := hD
          refine lv_iinc (v := (nI (k + 1))) (lv' := [(2, .int (nI (k + 1))), (0, .ref mo), (1, .int xr)]) hx hb dX9_goDown_36 hl (k := 0) rfl (nI_1 k) (by decide) rfl (fun ls hl => ?_)
          refine lv_goto (tgt := 2) hx hb dX9_goDown_39 (by decide) ?_
          exact ih_2 (k + 1) (y - 1) (by omega) (by omega) (by rw [← hv, show xr.toNatClampNeg - k = (xr.toNatClampNeg - (k + 1)) + 1 by omega, downF, if_neg (by rw [bf_c c_21]; decide)]) _ _ (hP) (hD) hS _ (lv_sub hl [0, 1, 2] rfl)
        · refine lv_iconst (v := 1) hx hb dX9_goDown_24 (by decide) ?_
          exact W.zret (v := 1) (ty := .boolean) hx hb hr (rfl) (fun t9 ht9 hW9 => ⟨⟨1, y, rfl, by rw [← hv, show xr.toNatClampNeg - k = (xr.toNatClampNeg - (k + 1)) + 1 by omega, downF, if_pos (bt_c c_21)]; exact ⟨rfl, rfl⟩, by rw [ht9]; exact hP, hD⟩, hS.F ht9⟩) hS.2.2 dX9_goDown_25
  exact loop_2 _ 0 vr (Nat.lt_succ_self _) (Nat.zero_le _) (rfl) _ _ hP hD hS _ (lv_sub hl [0, 1, 2] rfl)
