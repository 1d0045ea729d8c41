set_option maxHeartbeats 4000000 in
set_option maxRecDepth 100000 in
theorem i_World (l : Launch) (D : va_G) (cI cZ cW cJ : ClassId) (A : Nat → Prop) (X : va_W) (w : Nat) : Met l yX7_init wsX7_init ({ frames := 1, cells := 2, slots := 13, locals := 12 }) (va_Pc [.ref w] (wd D (tyL cI cZ cW cJ) A ((w, .inr (7, [.null, .null, .int 0, .int 0, .int 0, .int 0, .int 0])) :: X))) (va_Qv (fun (u : Nat × Nat) => True) (fun (u : Nat × Nat) t => wq D A (oX7 w u.1 u.2 0 0 0 0 0 :: aI cI u.1 10 (fun _ => 0) :: aI cI u.2 3 set0 :: X) t) A) 2 13 A := by
  refine Met.ofW (cc := cX7_init) (maxL := 1) (ret := none) (by decide) rfl ?_
  intro p e s m args below meth c s₁ B hml hv
  obtain ⟨rfl, hsz9, hP, hK, hD, hN⟩ := hv
  have hx := B.exec
  have hb := B.bytes
  have hr := B.returns
  have hts := atoms_spec (ws := wsX7_init) B.pre
  have hown : s.vm.findClass RX7 = some m.cls := findClass_of_methodNamed B.named
  have hlocks := B.notSynchronized
  have hin : meth.name = "<init>" := (name_of_methodNamed B.named B.method).1
  have CF : CallFix p m c cX7_init 1 s _ wsX7_init RX7 := ⟨hx, hb, hml, hown, hts⟩
  have hA : ∀ q : Nat, s.heap.size ≤ q → A q := hsz9
  have hS : va_S A s.heap s.heap [] := va_S.rf
  have hiX7 : ∀ w ∈ u_ws RX7 TX7 7, w ∈ wsX7_init := fun _ h => List.mem_cons_of_mem _ (List.mem_append_right _ (h))
  have hl := lv_entry ([.ref w]) (n := 1) (Nat.le_of_ble_eq_true rfl)
  rw [lg_entry_eq]
  generalize (lg_sl ([.ref w]) ++ List.replicate (1 - (lg_sl ([.ref w])).length) Slot.unset).toArray = ls at hl ⊢
  have hl : lv_has ls 1 [(0, .ref w)] := hl
  show W p l e ({ frames := 1, cells := 2, slots := 13, locals := 12 } : Room) s m (([.ref w] : List Value).toArray) below meth c s.heap [] 0 0 (MQ below (va_Qv (fun (u : Nat × Nat) => True) (fun (u : Nat × Nat) t => wq D A (oX7 w u.1 u.2 0 0 0 0 0 :: aI cI u.1 10 (fun _ => 0) :: aI cI u.2 3 set0 :: X) t) A) (([.ref w] : List Value).toArray) s 2 13 A) (F0 m 0 ls [])
  refine lv_aload_n hx hb dX7_init_0 rfl (lv_at hl 0 rfl) ?_
  refine W.objInit hx hb hown (hts (.methodLink RX7 3 objectInit) (List.mem_of_getElem? (i := 1) rfl)) (hts (.instanceMethod objectInit) (List.mem_of_getElem? (i := 2) rfl)) (hts (.code objectInit ⟨#[0xb1]⟩ 1 none) (List.mem_of_getElem? (i := 3) rfl)) rfl (by rw [hml]; exact hl.1) rfl dX7_init_1 (Nat.le_of_ble_eq_true rfl) (Nat.le_of_ble_eq_true rfl) ?_
  refine W.eq (g2 := F0 m 4 ls []) rfl ?_
  refine lv_aload_n hx hb dX7_init_4 rfl (lv_at hl 0 rfl) ?_
  refine lv_bipush (v := 10) hx hb dX7_init_5 (by decide) ?_
  refine nwI (N := 10) hx hb (hts (.arrayClass .int) (List.mem_of_getElem? (i := 4) rfl)) hK hP hD hS hA (by decide) rfl (Nat.le_of_ble_eq_true rfl) (Nat.le_of_ble_eq_true rfl) (Nat.le_of_ble_eq_true rfl) dX7_init_7 (fun q_1 H hP hD hS => ?_)
  refine W.widen (k := 1) (n := 10) (Nat.le_of_ble_eq_true rfl) (Nat.le_of_ble_eq_true rfl) ?_
  have hP : va_P D vwCl (aI cI q_1 10 (fun _ => 0) :: (w, .inr (7, [.null, .null, .int 0, .int 0, .int 0, .int 0, .int 0])) :: X) H := hP
  have hD : va_D A (aI cI q_1 10 (fun _ => 0) :: (w, .inr (7, [.null, .null, .int 0, .int 0, .int 0, .int 0, .int 0])) :: X) := hD
  refine va_putF (D := D) (ci := 7) (v := .ref q_1) (ty := .array .int) (C := RX7) (T := TX7) (N := 7) hx hb hts hiX7 tyX7 tyX7_ok nmX7 hown hK hP hD hS 1 rfl rfl 0 (by decide) (hts (.fieldLink RX7 9 "LedgeLeaps$World" "blocks" "[I") (List.mem_of_getElem? (i := 5) rfl)) (fun _ h9 => h9) rfl hin rfl (by decide +kernel) rfl rfl (Nat.le_of_ble_eq_true rfl) dX7_init_9 (fun H locs hP hD hS => ?_)
  have hP : va_P D vwCl (aI cI q_1 10 (fun _ => 0) :: (w, .inr (7, [.ref q_1, .null, .int 0, .int 0, .int 0, .int 0, .int 0])) :: X) H := hP
  have hD : va_D A (aI cI q_1 10 (fun _ => 0) :: (w, .inr (7, [.ref q_1, .null, .int 0, .int 0, .int 0, .int 0, .int 0])) :: X) := hD
  refine lv_aload_n hx hb dX7_init_12 rfl (lv_at hl 0 rfl) ?_
  refine lv_iconst (v := 3) hx hb dX7_init_13 (by decide) ?_
  refine nwI (N := 3) hx hb (hts (.arrayClass .int) (List.mem_of_getElem? (i := 4) rfl)) hK hP hD hS hA (by decide) rfl (Nat.le_of_ble_eq_true rfl) (Nat.le_of_ble_eq_true rfl) (Nat.le_of_ble_eq_true rfl) dX7_init_14 (fun q_2 H hP hD hS => ?_)
  refine W.widen (k := 2) (n := 13) (Nat.le_of_ble_eq_true rfl) (Nat.le_of_ble_eq_true rfl) ?_
  have hP : va_P D vwCl (aI cI q_2 3 (fun _ => 0) :: aI cI q_1 10 (fun _ => 0) :: (w, .inr (7, [.ref q_1, .null, .int 0, .int 0, .int 0, .int 0, .int 0])) :: X) H := hP
  have hD : va_D A (aI cI q_2 3 (fun _ => 0) :: aI cI q_1 10 (fun _ => 0) :: (w, .inr (7, [.ref q_1, .null, .int 0, .int 0, .int 0, .int 0, .int 0])) :: X) := hD
  refine lv_dup hx hb dX7_init_16 rfl ?_
  refine lv_iconst (v := 0) hx hb dX7_init_17 (by decide) ?_
  refine lv_iconst (v := 2) hx hb dX7_init_18 (by decide) ?_
  refine va_iast hx hb hK hP hD hS 0 0 rfl rfl (show ¬ ((0 : Int32) < 0 ∨ 3 ≤ (0 : Int32).toNatClampNeg) by decide) dX7_init_19 (fun H locs hP hD hS => ?_)
  have hP : va_P D vwCl (aI cI q_2 3 (upd (fun _ => 0) 0 2) :: aI cI q_1 10 (fun _ => 0) :: (w, .inr (7, [.ref q_1, .null, .int 0, .int 0, .int 0, .int 0, .int 0])) :: X) H := hP
  have hD : va_D A (aI cI q_2 3 (upd (fun _ => 0) 0 2) :: aI cI q_1 10 (fun _ => 0) :: (w, .inr (7, [.ref q_1, .null, .int 0, .int 0, .int 0, .int 0, .int 0])) :: X) := hD
  refine lv_dup hx hb dX7_init_20 rfl ?_
  refine lv_iconst (v := 1) hx hb dX7_init_21 (by decide) ?_
  refine lv_iconst (v := 3) hx hb dX7_init_22 (by decide) ?_
  refine va_iast hx hb hK hP hD hS 0 0 rfl rfl (show ¬ ((1 : Int32) < 0 ∨ 3 ≤ (1 : Int32).toNatClampNeg) by decide) dX7_init_23 (fun H locs hP hD hS => ?_)
  have hP : va_P D vwCl (aI cI q_2 3 (upd (upd (fun _ => 0) 0 2) 1 3) :: aI cI q_1 10 (fun _ => 0) :: (w, .inr (7, [.ref q_1, .null, .int 0, .int 0, .int 0, .int 0, .int 0])) :: X) H := hP
  have hD : va_D A (aI cI q_2 3 (upd (upd (fun _ => 0) 0 2) 1 3) :: aI cI q_1 10 (fun _ => 0) :: (w, .inr (7, [.ref q_1, .null, .int 0, .int 0, .int 0, .int 0, .int 0])) :: X) := hD
  refine lv_dup hx hb dX7_init_24 rfl ?_
  refine lv_iconst (v := 2) hx hb dX7_init_25 (by decide) ?_
  refine lv_iconst (v := 1) hx hb dX7_init_26 (by decide) ?_
  refine va_iast hx hb hK hP hD hS 0 0 rfl rfl (show ¬ ((2 : Int32) < 0 ∨ 3 ≤ (2 : Int32).toNatClampNeg) by decide) dX7_init_27 (fun H locs hP hD hS => ?_)
  have hP : va_P D vwCl (aI cI q_2 3 (upd (upd (upd (fun _ => 0) 0 2) 1 3) 2 1) :: aI cI q_1 10 (fun _ => 0) :: (w, .inr (7, [.ref q_1, .null, .int 0, .int 0, .int 0, .int 0, .int 0])) :: X) H := hP
  have hD : va_D A (aI cI q_2 3 (upd (upd (upd (fun _ => 0) 0 2) 1 3) 2 1) :: aI cI q_1 10 (fun _ => 0) :: (w, .inr (7, [.ref q_1, .null, .int 0, .int 0, .int 0, .int 0, .int 0])) :: X) := hD
  refine va_putF (D := D) (ci := 7) (v := .ref q_2) (ty := .array .int) (C := RX7) (T := TX7) (N := 7) hx hb hts hiX7 tyX7 tyX7_ok nmX7 hown hK hP hD hS 2 rfl rfl 1 (by decide) (hts (.fieldLink RX7 15 "LedgeLeaps$World" "settings" "[I") (List.mem_of_getElem? (i := 6) rfl)) (fun _ h9 => h9) rfl hin rfl (by decide +kernel) rfl rfl (Nat.le_of_ble_eq_true rfl) dX7_init_28 (fun H locs hP hD hS => ?_)
  have hP : va_P D vwCl (aI cI q_2 3 (upd (upd (upd (fun _ => 0) 0 2) 1 3) 2 1) :: aI cI q_1 10 (fun _ => 0) :: oX7 w q_1 q_2 0 0 0 0 0 :: X) H := hP
  have hD : va_D A (aI cI q_2 3 (upd (upd (upd (fun _ => 0) 0 2) 1 3) 2 1) :: aI cI q_1 10 (fun _ => 0) :: oX7 w q_1 q_2 0 0 0 0 0 :: X) := hD
  have hP : va_P D vwCl (oX7 w q_1 q_2 0 0 0 0 0 :: aI cI q_1 10 (fun _ => 0) :: aI cI q_2 3 (upd (upd (upd (fun _ => 0) 0 2) 1 3) 2 1) :: X) H := pm_P hP 3 [2, 1, 0] rfl
  have hD : va_D A (oX7 w q_1 q_2 0 0 0 0 0 :: aI cI q_1 10 (fun _ => 0) :: aI cI q_2 3 (upd (upd (upd (fun _ => 0) 0 2) 1 3) 2 1) :: X) := pm_D hD 3 [2, 1, 0] rfl rfl rfl
  exact W.vret hx hb hr (fun t9 ht9 hW9 => ⟨⟨(q_1, q_2), rfl, trivial, by rw [ht9]; exact hP, hD⟩, hS.F ht9⟩) hS.2.2 dX7_init_31
set_option maxHeartbeats 4000000 in
set_option maxRecDepth 100000 in
theorem i_Flight (l : Launch) (D : va_G) (cI cZ cW cJ : ClassId) (A : Nat → Prop) (X : va_W) (f : Nat) (fc fr ft fo fm fs fi : Int32) : Met l yX0_init wsX0_init ({ frames := 1, cells := 0, slots := 0, locals := 12 }) (va_Pc [.ref f] (wd D (tyL cI cZ cW cJ) A (oX0 f fc fr ft fo fm fs fi :: X))) (va_Qv (fun (u : Unit) => True) (fun (u : Unit) t => wq D A (oX0 f fc fr ft fo fm fs fi :: X) t) A) 0 0 A := by
  refine Met.ofW (cc := cX0_init) (maxL := 1) (ret := none) (by decide) rfl ?_
  intro p e s m args below meth c s₁ B hml hv
  obtain ⟨rfl, hsz9, hP, hK, hD, hN⟩ := hv
  have hx := B.exec
  have hb := B.bytes
  have hr := B.returns
  have hts := atoms_spec (ws := wsX0_init) B.pre
  have hown : s.vm.findClass RX0 = some m.cls := findClass_of_methodNamed B.named
  have hlocks := B.notSynchronized
  have hin : meth.name = "<init>" := (name_of_methodNamed B.named B.method).1
  have CF : CallFix p m c cX0_init 1 s _ wsX0_init RX0 := ⟨hx, hb, hml, hown, hts⟩
  have hA : ∀ q : Nat, s.heap.size ≤ q → A q := hsz9
  have hS : va_S A s.heap s.heap [] := va_S.rf
  have hl := lv_entry ([.ref f]) (n := 1) (Nat.le_of_ble_eq_true rfl)
  rw [lg_entry_eq]
  generalize (lg_sl ([.ref f]) ++ List.replicate (1 - (lg_sl ([.ref f])).length) Slot.unset).toArray = ls at hl ⊢
  have hl : lv_has ls 1 [(0, .ref f)] := hl
  show W p l e ({ frames := 1, cells := 0, slots := 0, locals := 12 } : Room) s m (([.ref f] : List Value).toArray) below meth c s.heap [] 0 0 (MQ below (va_Qv (fun (u : Unit) => True) (fun (u : Unit) t => wq D A (oX0 f fc fr ft fo fm fs fi :: X) t) A) (([.ref f] : List Value).toArray) s 0 0 A) (F0 m 0 ls [])
  refine lv_aload_n hx hb dX0_init_0 rfl (lv_at hl 0 rfl) ?_
  refine W.objInit hx hb hown (hts (.methodLink RX0 3 objectInit) (List.mem_of_getElem? (i := 1) rfl)) (hts (.instanceMethod objectInit) (List.mem_of_getElem? (i := 2) rfl)) (hts (.code objectInit ⟨#[0xb1]⟩ 1 none) (List.mem_of_getElem? (i := 3) rfl)) rfl (by rw [hml]; exact hl.1) rfl dX0_init_1 (Nat.le_of_ble_eq_true rfl) (Nat.le_of_ble_eq_true rfl) ?_
  refine W.eq (g2 := F0 m 4 ls []) rfl ?_
  exact W.vret hx hb hr (fun t9 ht9 hW9 => ⟨⟨(), rfl, trivial, by rw [ht9]; exact hP, hD⟩, hS.F ht9⟩) hS.2.2 dX0_init_4
set_option maxHeartbeats 4000000 in
set_option maxRecDepth 100000 in
theorem i_Text (l : Launch) (D : va_G) (cI cZ cW cJ : ClassId) (A : Nat → Prop) (X : va_W) (tx : Nat) : Met l yX3_init wsX3_init ({ frames := 1, cells := 1, slots := 60, locals := 12 }) (va_Pc [.ref tx] (wd D (tyL cI cZ cW cJ) A ((tx, .inr (3, [.int 0, .int 0, .int 0, .int 0, .int 0, .int 0, .null, .int 0, .int 0, .int 0])) :: X))) (va_Qv (fun (u : Nat) => True) (fun (u : Nat) t => wq D A (oX3 tx 0 0 0 0 0 0 u 0 0 0 :: aI cI u 60 (fun _ => 0) :: X) t) A) 1 60 A := by
  refine Met.ofW (cc := cX3_init) (maxL := 1) (ret := none) (by decide) rfl ?_
  intro p e s m args below meth c s₁ B hml hv
  obtain ⟨rfl, hsz9, hP, hK, hD, hN⟩ := hv
  have hx := B.exec
  have hb := B.bytes
  have hr := B.returns
  have hts := atoms_spec (ws := wsX3_init) B.pre
  have hown : s.vm.findClass RX3 = some m.cls := findClass_of_methodNamed B.named
  have hlocks := B.notSynchronized
  have hin : meth.name = "<init>" := (name_of_methodNamed B.named B.method).1
  have CF : CallFix p m c cX3_init 1 s _ wsX3_init RX3 := ⟨hx, hb, hml, hown, hts⟩
  have hA : ∀ q : Nat, s.heap.size ≤ q → A q := hsz9
  have hS : va_S A s.heap s.heap [] := va_S.rf
  have hiX3 : ∀ w ∈ u_ws RX3 TX3 10, w ∈ wsX3_init := fun _ h => List.mem_cons_of_mem _ (List.mem_append_right _ (h))
  have hl := lv_entry ([.ref tx]) (n := 1) (Nat.le_of_ble_eq_true rfl)
  rw [lg_entry_eq]
  generalize (lg_sl ([.ref tx]) ++ List.replicate (1 - (lg_sl ([.ref tx])).length) Slot.unset).toArray = ls at hl ⊢
  have hl : lv_has ls 1 [(0, .ref tx)] := hl
  show W p l e ({ frames := 1, cells := 1, slots := 60, locals := 12 } : Room) s m (([.ref tx] : List Value).toArray) below meth c s.heap [] 0 0 (MQ below (va_Qv (fun (u : Nat) => True) (fun (u : Nat) t => wq D A (oX3 tx 0 0 0 0 0 0 u 0 0 0 :: aI cI u 60 (fun _ => 0) :: X) t) A) (([.ref tx] : List Value).toArray) s 1 60 A) (F0 m 0 ls [])
  refine lv_aload_n hx hb dX3_init_0 rfl (lv_at hl 0 rfl) ?_
  refine W.objInit hx hb hown (hts (.methodLink RX3 3 objectInit) (List.mem_of_getElem? (i := 1) rfl)) (hts (.instanceMethod objectInit) (List.mem_of_getElem? (i := 2) rfl)) (hts (.code objectInit ⟨#[0xb1]⟩ 1 none) (List.mem_of_getElem? (i := 3) rfl)) rfl (by rw [hml]; exact hl.1) rfl dX3_init_1 (Nat.le_of_ble_eq_true rfl) (Nat.le_of_ble_eq_true rfl) ?_
  refine W.eq (g2 := F0 m 4 ls []) rfl ?_
  refine lv_aload_n hx hb dX3_init_4 rfl (lv_at hl 0 rfl) ?_
  refine lv_bipush (v := 60) hx hb dX3_init_5 (by decide) ?_
  refine nwI (N := 60) hx hb (hts (.arrayClass .int) (List.mem_of_getElem? (i := 4) rfl)) hK hP hD hS hA (by decide) rfl (Nat.le_of_ble_eq_true rfl) (Nat.le_of_ble_eq_true rfl) (Nat.le_of_ble_eq_true rfl) dX3_init_7 (fun q_1 H hP hD hS => ?_)
  refine W.widen (k := 1) (n := 60) (Nat.le_of_ble_eq_true rfl) (Nat.le_of_ble_eq_true rfl) ?_
  have hP : va_P D vwCl (aI cI q_1 60 (fun _ => 0) :: (tx, .inr (3, [.int 0, .int 0, .int 0, .int 0, .int 0, .int 0, .null, .int 0, .int 0, .int 0])) :: X) H := hP
  have hD : va_D A (aI cI q_1 60 (fun _ => 0) :: (tx, .inr (3, [.int 0, .int 0, .int 0, .int 0, .int 0, .int 0, .null, .int 0, .int 0, .int 0])) :: X) := hD
  refine va_putF (D := D) (ci := 3) (v := .ref q_1) (ty := .array .int) (C := RX3) (T := TX3) (N := 10) hx hb hts hiX3 tyX3 tyX3_ok nmX3 hown hK hP hD hS 1 rfl rfl 6 (by decide) (hts (.fieldLink RX3 9 "LedgeLeaps$OrderText" "codes" "[I") (List.mem_of_getElem? (i := 5) rfl)) (fun _ h9 => h9) rfl hin rfl (by decide +kernel) rfl rfl (Nat.le_of_ble_eq_true rfl) dX3_init_9 (fun H locs hP hD hS => ?_)
  have hP : va_P D vwCl (aI cI q_1 60 (fun _ => 0) :: oX3 tx 0 0 0 0 0 0 q_1 0 0 0 :: X) H := hP
  have hD : va_D A (aI cI q_1 60 (fun _ => 0) :: oX3 tx 0 0 0 0 0 0 q_1 0 0 0 :: X) := hD
  refine lv_aload_n hx hb dX3_init_12 rfl (lv_at hl 0 rfl) ?_
  refine lv_iconst (v := 0) hx hb dX3_init_13 (by decide) ?_
  refine va_put (D := D) (ci := 3) (v := .int 0) (ty := .int) (C := RX3) (T := TX3) (N := 10) hx hb hts hiX3 tyX3 tyX3_ok nmX3 hown hK hP hD hS 1 rfl rfl 7 (by decide) (hts (.fieldLink RX3 15 "LedgeLeaps$OrderText" "expected" "I") (List.mem_of_getElem? (i := 6) rfl)) (fun _ h9 => h9) rfl (by decide +kernel) rfl rfl (Nat.le_of_ble_eq_true rfl) dX3_init_14 (fun H locs hP hD hS => ?_)
  have hP : va_P D vwCl (aI cI q_1 60 (fun _ => 0) :: oX3 tx 0 0 0 0 0 0 q_1 0 0 0 :: X) H := hP
  have hD : va_D A (aI cI q_1 60 (fun _ => 0) :: oX3 tx 0 0 0 0 0 0 q_1 0 0 0 :: X) := hD
  have hP : va_P D vwCl (oX3 tx 0 0 0 0 0 0 q_1 0 0 0 :: aI cI q_1 60 (fun _ => 0) :: X) H := pm_P hP 2 [1, 0] rfl
  have hD : va_D A (oX3 tx 0 0 0 0 0 0 q_1 0 0 0 :: aI cI q_1 60 (fun _ => 0) :: X) := pm_D hD 2 [1, 0] rfl rfl rfl
  exact W.vret hx hb hr (fun t9 ht9 hW9 => ⟨⟨(q_1), rfl, trivial, by rw [ht9]; exact hP, hD⟩, hS.F ht9⟩) hS.2.2 dX3_init_17
set_option maxHeartbeats 4000000 in
set_option maxRecDepth 100000 in
theorem i_Map (l : Launch) (D : va_G) (cI cZ cW cJ : ClassId) (A : Nat → Prop) (X : va_W) (mm : Nat) : Met l yX2_init wsX2_init ({ frames := 1, cells := 4, slots := 500, locals := 12 }) (va_Pc [.ref mm] (wd D (tyL cI cZ cW cJ) A ((mm, .inr (2, [.null, .null, .null, .int 0, .null])) :: X))) (va_Qv (fun (u : Nat × Nat × Nat × Nat) => True) (fun (u : Nat × Nat × Nat × Nat) t => wq D A (oX2 mm u.1 u.2.1 u.2.2.1 0 u.2.2.2 :: aI cI u.1 100 (fun _ => 0) :: aI cI u.2.1 100 (fun _ => 0) :: aI cI u.2.2.1 100 (fun _ => 0) :: aI cI u.2.2.2 200 (fun _ => 0) :: X) t) A) 4 500 A := by
  refine Met.ofW (cc := cX2_init) (maxL := 1) (ret := none) (by decide) rfl ?_
  intro p e s m args below meth c s₁ B hml hv
  obtain ⟨rfl, hsz9, hP, hK, hD, hN⟩ := hv
  have hx := B.exec
  have hb := B.bytes
  have hr := B.returns
  have hts := atoms_spec (ws := wsX2_init) B.pre
  have hown : s.vm.findClass RX2 = some m.cls := findClass_of_methodNamed B.named
  have hlocks := B.notSynchronized
  have hin : meth.name = "<init>" := (name_of_methodNamed B.named B.method).1
  have CF : CallFix p m c cX2_init 1 s _ wsX2_init RX2 := ⟨hx, hb, hml, hown, hts⟩
  have hA : ∀ q : Nat, s.heap.size ≤ q → A q := hsz9
  have hS : va_S A s.heap s.heap [] := va_S.rf
  have hiX2 : ∀ w ∈ u_ws RX2 TX2 5, w ∈ wsX2_init := fun _ h => List.mem_cons_of_mem _ (List.mem_append_right _ (h))
  have hl := lv_entry ([.ref mm]) (n := 1) (Nat.le_of_ble_eq_true rfl)
  rw [lg_entry_eq]
  generalize (lg_sl ([.ref mm]) ++ List.replicate (1 - (lg_sl ([.ref mm])).length) Slot.unset).toArray = ls at hl ⊢
  have hl : lv_has ls 1 [(0, .ref mm)] := hl
  show W p l e ({ frames := 1, cells := 4, slots := 500, locals := 12 } : Room) s m (([.ref mm] : List Value).toArray) below meth c s.heap [] 0 0 (MQ below (va_Qv (fun (u : Nat × Nat × Nat × Nat) => True) (fun (u : Nat × Nat × Nat × Nat) t => wq D A (oX2 mm u.1 u.2.1 u.2.2.1 0 u.2.2.2 :: aI cI u.1 100 (fun _ => 0) :: aI cI u.2.1 100 (fun _ => 0) :: aI cI u.2.2.1 100 (fun _ => 0) :: aI cI u.2.2.2 200 (fun _ => 0) :: X) t) A) (([.ref mm] : List Value).toArray) s 4 500 A) (F0 m 0 ls [])
  refine lv_aload_n hx hb dX2_init_0 rfl (lv_at hl 0 rfl) ?_
  refine W.objInit hx hb hown (hts (.methodLink RX2 3 objectInit) (List.mem_of_getElem? (i := 1) rfl)) (hts (.instanceMethod objectInit) (List.mem_of_getElem? (i := 2) rfl)) (hts (.code objectInit ⟨#[0xb1]⟩ 1 none) (List.mem_of_getElem? (i := 3) rfl)) rfl (by rw [hml]; exact hl.1) rfl dX2_init_1 (Nat.le_of_ble_eq_true rfl) (Nat.le_of_ble_eq_true rfl) ?_
  refine W.eq (g2 := F0 m 4 ls []) rfl ?_
  refine lv_aload_n hx hb dX2_init_4 rfl (lv_at hl 0 rfl) ?_
  refine lv_bipush (v := 100) hx hb dX2_init_5 (by decide) ?_
  refine nwI (N := 100) hx hb (hts (.arrayClass .int) (List.mem_of_getElem? (i := 4) rfl)) hK hP hD hS hA (by decide) rfl (Nat.le_of_ble_eq_true rfl) (Nat.le_of_ble_eq_true rfl) (Nat.le_of_ble_eq_true rfl) dX2_init_7 (fun q_1 H hP hD hS => ?_)
  refine W.widen (k := 1) (n := 100) (Nat.le_of_ble_eq_true rfl) (Nat.le_of_ble_eq_true rfl) ?_
  have hP : va_P D vwCl (aI cI q_1 100 (fun _ => 0) :: (mm, .inr (2, [.null, .null, .null, .int 0, .null])) :: X) H := hP
  have hD : va_D A (aI cI q_1 100 (fun _ => 0) :: (mm, .inr (2, [.null, .null, .null, .int 0, .null])) :: X) := hD
  refine va_putF (D := D) (ci := 2) (v := .ref q_1) (ty := .array .int) (C := RX2) (T := TX2) (N := 5) hx hb hts hiX2 tyX2 tyX2_ok nmX2 hown hK hP hD hS 1 rfl rfl 0 (by decide) (hts (.fieldLink RX2 9 "LedgeLeaps$LedgeMap" "rows" "[I") (List.mem_of_getElem? (i := 5) rfl)) (fun _ h9 => h9) rfl hin rfl (by decide +kernel) rfl rfl (Nat.le_of_ble_eq_true rfl) dX2_init_9 (fun H locs hP hD hS => ?_)
  have hP : va_P D vwCl (aI cI q_1 100 (fun _ => 0) :: (mm, .inr (2, [.ref q_1, .null, .null, .int 0, .null])) :: X) H := hP
  have hD : va_D A (aI cI q_1 100 (fun _ => 0) :: (mm, .inr (2, [.ref q_1, .null, .null, .int 0, .null])) :: X) := hD
  refine lv_aload_n hx hb dX2_init_12 rfl (lv_at hl 0 rfl) ?_
  refine lv_bipush (v := 100) hx hb dX2_init_13 (by decide) ?_
  refine nwI (N := 100) hx hb (hts (.arrayClass .int) (List.mem_of_getElem? (i := 4) rfl)) hK hP hD hS hA (by decide) rfl (Nat.le_of_ble_eq_true rfl) (Nat.le_of_ble_eq_true rfl) (Nat.le_of_ble_eq_true rfl) dX2_init_15 (fun q_2 H hP hD hS => ?_)
  refine W.widen (k := 2) (n := 200) (Nat.le_of_ble_eq_true rfl) (Nat.le_of_ble_eq_true rfl) ?_
  have hP : va_P D vwCl (aI cI q_2 100 (fun _ => 0) :: aI cI q_1 100 (fun _ => 0) :: (mm, .inr (2, [.ref q_1, .null, .null, .int 0, .null])) :: X) H := hP
  have hD : va_D A (aI cI q_2 100 (fun _ => 0) :: aI cI q_1 100 (fun _ => 0) :: (mm, .inr (2, [.ref q_1, .null, .null, .int 0, .null])) :: X) := hD
  refine va_putF (D := D) (ci := 2) (v := .ref q_2) (ty := .array .int) (C := RX2) (T := TX2) (N := 5) hx hb hts hiX2 tyX2 tyX2_ok nmX2 hown hK hP hD hS 2 rfl rfl 1 (by decide) (hts (.fieldLink RX2 15 "LedgeLeaps$LedgeMap" "firstColumns" "[I") (List.mem_of_getElem? (i := 6) rfl)) (fun _ h9 => h9) rfl hin rfl (by decide +kernel) rfl rfl (Nat.le_of_ble_eq_true rfl) dX2_init_17 (fun H locs hP hD hS => ?_)
  have hP : va_P D vwCl (aI cI q_2 100 (fun _ => 0) :: aI cI q_1 100 (fun _ => 0) :: (mm, .inr (2, [.ref q_1, .ref q_2, .null, .int 0, .null])) :: X) H := hP
  have hD : va_D A (aI cI q_2 100 (fun _ => 0) :: aI cI q_1 100 (fun _ => 0) :: (mm, .inr (2, [.ref q_1, .ref q_2, .null, .int 0, .null])) :: X) := hD
  refine lv_aload_n hx hb dX2_init_20 rfl (lv_at hl 0 rfl) ?_
  refine lv_bipush (v := 100) hx hb dX2_init_21 (by decide) ?_
  refine nwI (N := 100) hx hb (hts (.arrayClass .int) (List.mem_of_getElem? (i := 4) rfl)) hK hP hD hS hA (by decide) rfl (Nat.le_of_ble_eq_true rfl) (Nat.le_of_ble_eq_true rfl) (Nat.le_of_ble_eq_true rfl) dX2_init_23 (fun q_3 H hP hD hS => ?_)
  refine W.widen (k := 3) (n := 300) (Nat.le_of_ble_eq_true rfl) (Nat.le_of_ble_eq_true rfl) ?_
  have hP : va_P D vwCl (aI cI q_3 100 (fun _ => 0) :: aI cI q_2 100 (fun _ => 0) :: aI cI q_1 100 (fun _ => 0) :: (mm, .inr (2, [.ref q_1, .ref q_2, .null, .int 0, .null])) :: X) H := hP
  have hD : va_D A (aI cI q_3 100 (fun _ => 0) :: aI cI q_2 100 (fun _ => 0) :: aI cI q_1 100 (fun _ => 0) :: (mm, .inr (2, [.ref q_1, .ref q_2, .null, .int 0, .null])) :: X) := hD
  refine va_putF (D := D) (ci := 2) (v := .ref q_3) (ty := .array .int) (C := RX2) (T := TX2) (N := 5) hx hb hts hiX2 tyX2 tyX2_ok nmX2 hown hK hP hD hS 3 rfl rfl 2 (by decide) (hts (.fieldLink RX2 18 "LedgeLeaps$LedgeMap" "lengths" "[I") (List.mem_of_getElem? (i := 7) rfl)) (fun _ h9 => h9) rfl hin rfl (by decide +kernel) rfl rfl (Nat.le_of_ble_eq_true rfl) dX2_init_25 (fun H locs hP hD hS => ?_)
  have hP : va_P D vwCl (aI cI q_3 100 (fun _ => 0) :: aI cI q_2 100 (fun _ => 0) :: aI cI q_1 100 (fun _ => 0) :: (mm, .inr (2, [.ref q_1, .ref q_2, .ref q_3, .int 0, .null])) :: X) H := hP
  have hD : va_D A (aI cI q_3 100 (fun _ => 0) :: aI cI q_2 100 (fun _ => 0) :: aI cI q_1 100 (fun _ => 0) :: (mm, .inr (2, [.ref q_1, .ref q_2, .ref q_3, .int 0, .null])) :: X) := hD
  refine lv_aload_n hx hb dX2_init_28 rfl (lv_at hl 0 rfl) ?_
  refine lv_sipush (v := 200) hx hb dX2_init_29 (by decide) ?_
  refine nwI (N := 200) hx hb (hts (.arrayClass .int) (List.mem_of_getElem? (i := 4) rfl)) hK hP hD hS hA (by decide) rfl (Nat.le_of_ble_eq_true rfl) (Nat.le_of_ble_eq_true rfl) (Nat.le_of_ble_eq_true rfl) dX2_init_32 (fun q_4 H hP hD hS => ?_)
  refine W.widen (k := 4) (n := 500) (Nat.le_of_ble_eq_true rfl) (Nat.le_of_ble_eq_true rfl) ?_
  have hP : va_P D vwCl (aI cI q_4 200 (fun _ => 0) :: aI cI q_3 100 (fun _ => 0) :: aI cI q_2 100 (fun _ => 0) :: aI cI q_1 100 (fun _ => 0) :: (mm, .inr (2, [.ref q_1, .ref q_2, .ref q_3, .int 0, .null])) :: X) H := hP
  have hD : va_D A (aI cI q_4 200 (fun _ => 0) :: aI cI q_3 100 (fun _ => 0) :: aI cI q_2 100 (fun _ => 0) :: aI cI q_1 100 (fun _ => 0) :: (mm, .inr (2, [.ref q_1, .ref q_2, .ref q_3, .int 0, .null])) :: X) := hD
  refine va_putF (D := D) (ci := 2) (v := .ref q_4) (ty := .array .int) (C := RX2) (T := TX2) (N := 5) hx hb hts hiX2 tyX2 tyX2_ok nmX2 hown hK hP hD hS 4 rfl rfl 4 (by decide) (hts (.fieldLink RX2 21 "LedgeLeaps$LedgeMap" "ledgesOfCells" "[I") (List.mem_of_getElem? (i := 8) rfl)) (fun _ h9 => h9) rfl hin rfl (by decide +kernel) rfl rfl (Nat.le_of_ble_eq_true rfl) dX2_init_34 (fun H locs hP hD hS => ?_)
  have hP : va_P D vwCl (aI cI q_4 200 (fun _ => 0) :: aI cI q_3 100 (fun _ => 0) :: aI cI q_2 100 (fun _ => 0) :: aI cI q_1 100 (fun _ => 0) :: oX2 mm q_1 q_2 q_3 0 q_4 :: X) H := hP
  have hD : va_D A (aI cI q_4 200 (fun _ => 0) :: aI cI q_3 100 (fun _ => 0) :: aI cI q_2 100 (fun _ => 0) :: aI cI q_1 100 (fun _ => 0) :: oX2 mm q_1 q_2 q_3 0 q_4 :: X) := hD
  have hP : va_P D vwCl (oX2 mm q_1 q_2 q_3 0 q_4 :: aI cI q_1 100 (fun _ => 0) :: aI cI q_2 100 (fun _ => 0) :: aI cI q_3 100 (fun _ => 0) :: aI cI q_4 200 (fun _ => 0) :: X) H := pm_P hP 5 [4, 3, 2, 1, 0] rfl
  have hD : va_D A (oX2 mm q_1 q_2 q_3 0 q_4 :: aI cI q_1 100 (fun _ => 0) :: aI cI q_2 100 (fun _ => 0) :: aI cI q_3 100 (fun _ => 0) :: aI cI q_4 200 (fun _ => 0) :: X) := pm_D hD 5 [4, 3, 2, 1, 0] rfl rfl rfl
  exact W.vret hx hb hr (fun t9 ht9 hW9 => ⟨⟨(q_1, q_2, q_3, q_4), rfl, trivial, by rw [ht9]; exact hP, hD⟩, hS.F ht9⟩) hS.2.2 dX2_init_37
set_option maxHeartbeats 4000000 in
set_option maxRecDepth 100000 in
theorem i_Reaches (l : Launch) (D : va_G) (cI cZ cW cJ : ClassId) (A : Nat → Prop) (X : va_W) (re : Nat) : Met l yX4_init wsX4_init ({ frames := 2, cells := 2, slots := 10007, locals := 32 }) (va_Pc [.ref re] (wd D (tyL cI cZ cW cJ) A ((re, .inr (4, [.int 0, .null, .null])) :: X))) (va_Qv (fun (u : Nat × Nat) => True) (fun (u : Nat × Nat) t => wq D A (oX4 re 0 u.1 u.2 :: aI cI u.1 10000 (fun _ => 0) :: oX0 u.2 0 0 0 0 0 0 0 :: X) t) A) 2 10007 A := by
  refine Met.ofW (cc := cX4_init) (maxL := 1) (ret := none) (by decide) rfl ?_
  intro p e s m args below meth c s₁ B hml hv
  obtain ⟨rfl, hsz9, hP, hK, hD, hN⟩ := hv
  have hx := B.exec
  have hb := B.bytes
  have hr := B.returns
  have hts := atoms_spec (ws := wsX4_init) B.pre
  have hown : s.vm.findClass RX4 = some m.cls := findClass_of_methodNamed B.named
  have hlocks := B.notSynchronized
  have hin : meth.name = "<init>" := (name_of_methodNamed B.named B.method).1
  have CF : CallFix p m c cX4_init 1 s _ wsX4_init RX4 := ⟨hx, hb, hml, hown, hts⟩
  have hA : ∀ q : Nat, s.heap.size ≤ q → A q := hsz9
  have hS : va_S A s.heap s.heap [] := va_S.rf
  have hiX0 : ∀ w ∈ u_ws RX0 TX0 7, w ∈ wsX4_init := fun _ h => List.mem_cons_of_mem _ (List.mem_append_right _ (h))
  have hiX4 : ∀ w ∈ u_ws RX4 TX4 3, w ∈ wsX4_init := fun _ h => List.mem_cons_of_mem _ (List.mem_append_left _ (List.mem_append_right _ (h)))
  have hl := lv_entry ([.ref re]) (n := 1) (Nat.le_of_ble_eq_true rfl)
  rw [lg_entry_eq]
  generalize (lg_sl ([.ref re]) ++ List.replicate (1 - (lg_sl ([.ref re])).length) Slot.unset).toArray = ls at hl ⊢
  have hl : lv_has ls 1 [(0, .ref re)] := hl
  show W p l e ({ frames := 2, cells := 2, slots := 10007, locals := 32 } : Room) s m (([.ref re] : List Value).toArray) below meth c s.heap [] 0 0 (MQ below (va_Qv (fun (u : Nat × Nat) => True) (fun (u : Nat × Nat) t => wq D A (oX4 re 0 u.1 u.2 :: aI cI u.1 10000 (fun _ => 0) :: oX0 u.2 0 0 0 0 0 0 0 :: X) t) A) (([.ref re] : List Value).toArray) s 2 10007 A) (F0 m 0 ls [])
  refine lv_aload_n hx hb dX4_init_0 rfl (lv_at hl 0 rfl) ?_
  refine W.objInit hx hb hown (hts (.methodLink RX4 3 objectInit) (List.mem_of_getElem? (i := 1) rfl)) (hts (.instanceMethod objectInit) (List.mem_of_getElem? (i := 2) rfl)) (hts (.code objectInit ⟨#[0xb1]⟩ 1 none) (List.mem_of_getElem? (i := 3) rfl)) rfl (by rw [hml]; exact hl.1) rfl dX4_init_1 (Nat.le_of_ble_eq_true rfl) (Nat.le_of_ble_eq_true rfl) ?_
  refine W.eq (g2 := F0 m 4 ls []) rfl ?_
  refine lv_aload_n hx hb dX4_init_4 rfl (lv_at hl 0 rfl) ?_
  refine lv_sipush (v := 10000) hx hb dX4_init_5 (by decide) ?_
  refine nwI (N := 10000) hx hb (hts (.arrayClass .int) (List.mem_of_getElem? (i := 4) rfl)) hK hP hD hS hA (by decide) rfl (Nat.le_of_ble_eq_true rfl) (Nat.le_of_ble_eq_true rfl) (Nat.le_of_ble_eq_true rfl) dX4_init_8 (fun q_1 H hP hD hS => ?_)
  refine W.widen (k := 1) (n := 10000) (Nat.le_of_ble_eq_true rfl) (Nat.le_of_ble_eq_true rfl) ?_
  have hP : va_P D vwCl (aI cI q_1 10000 (fun _ => 0) :: (re, .inr (4, [.int 0, .null, .null])) :: X) H := hP
  have hD : va_D A (aI cI q_1 10000 (fun _ => 0) :: (re, .inr (4, [.int 0, .null, .null])) :: X) := hD
  refine va_putF (D := D) (ci := 4) (v := .ref q_1) (ty := .array .int) (C := RX4) (T := TX4) (N := 3) hx hb hts hiX4 tyX4 tyX4_ok nmX4 hown hK hP hD hS 1 rfl rfl 1 (by decide) (hts (.fieldLink RX4 9 "LedgeLeaps$Reaches" "leastRunUps" "[I") (List.mem_of_getElem? (i := 5) rfl)) (fun _ h9 => h9) rfl hin rfl (by decide +kernel) rfl rfl (Nat.le_of_ble_eq_true rfl) dX4_init_10 (fun H locs hP hD hS => ?_)
  have hP : va_P D vwCl (aI cI q_1 10000 (fun _ => 0) :: (re, .inr (4, [.int 0, .ref q_1, .null])) :: X) H := hP
  have hD : va_D A (aI cI q_1 10000 (fun _ => 0) :: (re, .inr (4, [.int 0, .ref q_1, .null])) :: X) := hD
  refine lv_aload_n hx hb dX4_init_13 rfl (lv_at hl 0 rfl) ?_
  refine nwO (ci := 0) (fs := [.int 0, .int 0, .int 0, .int 0, .int 0, .int 0, .int 0]) (C := RX0) (T := TX0) (N := 7) hx hb hts hiX0 tyX0 tyX0_ok hown (hts (.classLink RX4 15 RX0) (List.mem_of_getElem? (i := 6) rfl)) (hts (.instantiable RX0 7) (List.mem_of_getElem? (i := 7) rfl)) (hts (.initialized RX0) (List.mem_of_getElem? (i := 8) rfl)) hK hP hD hS hA rfl (fun j hj => by rcases (show j = 0 ∨ j = 1 ∨ j = 2 ∨ j = 3 ∨ j = 4 ∨ j = 5 ∨ j = 6 by omega) with rfl | rfl | rfl | rfl | rfl | rfl | rfl <;> rfl) (Nat.le_of_ble_eq_true rfl) (Nat.le_of_ble_eq_true rfl) dX4_init_14 (fun q_2 H hP hD hS => ?_)
  refine W.widen (k := 2) (n := 10007) (Nat.le_of_ble_eq_true rfl) (Nat.le_of_ble_eq_true rfl) ?_
  have hP : va_P D vwCl (oX0 q_2 0 0 0 0 0 0 0 :: aI cI q_1 10000 (fun _ => 0) :: (re, .inr (4, [.int 0, .ref q_1, .null])) :: X) H := hP
  have hD : va_D A (oX0 q_2 0 0 0 0 0 0 0 :: aI cI q_1 10000 (fun _ => 0) :: (re, .inr (4, [.int 0, .ref q_1, .null])) :: X) := hD
  refine lv_dup hx hb dX4_init_17 rfl ?_
  refine cIN_v CF hK hN hA hS (cut_of 3 [0, 1, 2] hP hD rfl rfl rfl) (i_Flight l D cI cZ cW cJ A (aI cI q_1 10000 (fun _ => 0) :: (re, .inr (4, [.int 0, .ref q_1, .null])) :: X) q_2 0 0 0 0 0 0 0) ⟨va_cnB 0 hts gX4_init_X0_init_n17 rfl rfl rfl (hN (RX4, 17, yX0_init) (List.mem_of_getElem? (i := 14) rfl)) (hts (.initialized RX0) (List.mem_of_getElem? (i := 8) rfl)) (by decide +kernel) ⟨Nat.le_of_ble_eq_true rfl, Nat.le_of_ble_eq_true rfl⟩, rfl, (hts (.instanceMethod yX0_init) (List.mem_of_getElem? (i := 10) rfl))⟩ (As := []) (rest := [.ref q_2, .ref re]) rfl hl.1 rfl (Nat.le_of_ble_eq_true rfl) dX4_init_18 ⟨Nat.le_of_ble_eq_true rfl, Nat.le_of_ble_eq_true rfl⟩ (fun _ H locs hq hP hD hS => ?_)
  refine W.widen (k := 2) (n := 10007) (Nat.le_of_ble_eq_true rfl) (Nat.le_of_ble_eq_true rfl) ?_
  have hP : va_P D vwCl (oX0 q_2 0 0 0 0 0 0 0 :: aI cI q_1 10000 (fun _ => 0) :: (re, .inr (4, [.int 0, .ref q_1, .null])) :: X) H := hP
  have hD : va_D A (oX0 q_2 0 0 0 0 0 0 0 :: aI cI q_1 10000 (fun _ => 0) :: (re, .inr (4, [.int 0, .ref q_1, .null])) :: X) := hD
  refine va_putF (D := D) (ci := 4) (v := .ref q_2) (ty := .object "LedgeLeaps$Flight") (C := RX4) (T := TX4) (N := 3) hx hb hts hiX4 tyX4 tyX4_ok nmX4 hown hK hP hD hS 2 rfl rfl 2 (by decide) (hts (.fieldLink RX4 18 "LedgeLeaps$Reaches" "flight" "LLedgeLeaps$Flight;") (List.mem_of_getElem? (i := 9) rfl)) (fun _ h9 => h9) rfl hin rfl (by decide +kernel) rfl rfl (Nat.le_of_ble_eq_true rfl) dX4_init_21 (fun H locs hP hD hS => ?_)
  have hP : va_P D vwCl (oX0 q_2 0 0 0 0 0 0 0 :: aI cI q_1 10000 (fun _ => 0) :: oX4 re 0 q_1 q_2 :: X) H := hP
  have hD : va_D A (oX0 q_2 0 0 0 0 0 0 0 :: aI cI q_1 10000 (fun _ => 0) :: oX4 re 0 q_1 q_2 :: X) := hD
  have hP : va_P D vwCl (oX4 re 0 q_1 q_2 :: aI cI q_1 10000 (fun _ => 0) :: oX0 q_2 0 0 0 0 0 0 0 :: X) H := pm_P hP 3 [2, 1, 0] rfl
  have hD : va_D A (oX4 re 0 q_1 q_2 :: aI cI q_1 10000 (fun _ => 0) :: oX0 q_2 0 0 0 0 0 0 0 :: X) := pm_D hD 3 [2, 1, 0] rfl rfl rfl
  exact W.vret hx hb hr (fun t9 ht9 hW9 => ⟨⟨(q_1, q_2), rfl, trivial, by rw [ht9]; exact hP, hD⟩, hS.F ht9⟩) hS.2.2 dX4_init_24
set_option maxHeartbeats 4000000 in
set_option maxRecDepth 100000 in
theorem i_Routes (l : Launch) (D : va_G) (cI cZ cW cJ : ClassId) (A : Nat → Prop) (X : va_W) (ro : Nat) : Met l yX5_init wsX5_init ({ frames := 1, cells := 4, slots := 10504, locals := 12 }) (va_Pc [.ref ro] (wd D (tyL cI cZ cW cJ) A ((ro, .inr (5, [.null, .null, .null, .null, .int 0])) :: X))) (va_Qv (fun (u : Nat × Nat × Nat × Nat) => True) (fun (u : Nat × Nat × Nat × Nat) t => wq D A (oX5 ro u.1 u.2.1 u.2.2.1 u.2.2.2 0 :: aI cI u.1 4 (fun _ => 0) :: aI cI u.2.1 400 (fun _ => 0) :: aI cI u.2.2.1 100 (fun _ => 0) :: aI cI u.2.2.2 10000 (fun _ => 0) :: X) t) A) 4 10504 A := by
  refine Met.ofW (cc := cX5_init) (maxL := 1) (ret := none) (by decide) rfl ?_
  intro p e s m args below meth c s₁ B hml hv
  obtain ⟨rfl, hsz9, hP, hK, hD, hN⟩ := hv
  have hx := B.exec
  have hb := B.bytes
  have hr := B.returns
  have hts := atoms_spec (ws := wsX5_init) B.pre
  have hown : s.vm.findClass RX5 = some m.cls := findClass_of_methodNamed B.named
  have hlocks := B.notSynchronized
  have hin : meth.name = "<init>" := (name_of_methodNamed B.named B.method).1
  have CF : CallFix p m c cX5_init 1 s _ wsX5_init RX5 := ⟨hx, hb, hml, hown, hts⟩
  have hA : ∀ q : Nat, s.heap.size ≤ q → A q := hsz9
  have hS : va_S A s.heap s.heap [] := va_S.rf
  have hiX5 : ∀ w ∈ u_ws RX5 TX5 5, w ∈ wsX5_init := fun _ h => List.mem_cons_of_mem _ (List.mem_append_right _ (h))
  have hl := lv_entry ([.ref ro]) (n := 1) (Nat.le_of_ble_eq_true rfl)
  rw [lg_entry_eq]
  generalize (lg_sl ([.ref ro]) ++ List.replicate (1 - (lg_sl ([.ref ro])).length) Slot.unset).toArray = ls at hl ⊢
  have hl : lv_has ls 1 [(0, .ref ro)] := hl
  show W p l e ({ frames := 1, cells := 4, slots := 10504, locals := 12 } : Room) s m (([.ref ro] : List Value).toArray) below meth c s.heap [] 0 0 (MQ below (va_Qv (fun (u : Nat × Nat × Nat × Nat) => True) (fun (u : Nat × Nat × Nat × Nat) t => wq D A (oX5 ro u.1 u.2.1 u.2.2.1 u.2.2.2 0 :: aI cI u.1 4 (fun _ => 0) :: aI cI u.2.1 400 (fun _ => 0) :: aI cI u.2.2.1 100 (fun _ => 0) :: aI cI u.2.2.2 10000 (fun _ => 0) :: X) t) A) (([.ref ro] : List Value).toArray) s 4 10504 A) (F0 m 0 ls [])
  refine lv_aload_n hx hb dX5_init_0 rfl (lv_at hl 0 rfl) ?_
  refine W.objInit hx hb hown (hts (.methodLink RX5 3 objectInit) (List.mem_of_getElem? (i := 1) rfl)) (hts (.instanceMethod objectInit) (List.mem_of_getElem? (i := 2) rfl)) (hts (.code objectInit ⟨#[0xb1]⟩ 1 none) (List.mem_of_getElem? (i := 3) rfl)) rfl (by rw [hml]; exact hl.1) rfl dX5_init_1 (Nat.le_of_ble_eq_true rfl) (Nat.le_of_ble_eq_true rfl) ?_
  refine W.eq (g2 := F0 m 4 ls []) rfl ?_
  refine lv_aload_n hx hb dX5_init_4 rfl (lv_at hl 0 rfl) ?_
  refine lv_iconst (v := 4) hx hb dX5_init_5 (by decide) ?_
  refine nwI (N := 4) hx hb (hts (.arrayClass .int) (List.mem_of_getElem? (i := 4) rfl)) hK hP hD hS hA (by decide) rfl (Nat.le_of_ble_eq_true rfl) (Nat.le_of_ble_eq_true rfl) (Nat.le_of_ble_eq_true rfl) dX5_init_6 (fun q_1 H hP hD hS => ?_)
  refine W.widen (k := 1) (n := 4) (Nat.le_of_ble_eq_true rfl) (Nat.le_of_ble_eq_true rfl) ?_
  have hP : va_P D vwCl (aI cI q_1 4 (fun _ => 0) :: (ro, .inr (5, [.null, .null, .null, .null, .int 0])) :: X) H := hP
  have hD : va_D A (aI cI q_1 4 (fun _ => 0) :: (ro, .inr (5, [.null, .null, .null, .null, .int 0])) :: X) := hD
  refine va_putF (D := D) (ci := 5) (v := .ref q_1) (ty := .array .int) (C := RX5) (T := TX5) (N := 5) hx hb hts hiX5 tyX5 tyX5_ok nmX5 hown hK hP hD hS 1 rfl rfl 0 (by decide) (hts (.fieldLink RX5 9 "LedgeLeaps$Routes" "origins" "[I") (List.mem_of_getElem? (i := 5) rfl)) (fun _ h9 => h9) rfl hin rfl (by decide +kernel) rfl rfl (Nat.le_of_ble_eq_true rfl) dX5_init_8 (fun H locs hP hD hS => ?_)
  have hP : va_P D vwCl (aI cI q_1 4 (fun _ => 0) :: (ro, .inr (5, [.ref q_1, .null, .null, .null, .int 0])) :: X) H := hP
  have hD : va_D A (aI cI q_1 4 (fun _ => 0) :: (ro, .inr (5, [.ref q_1, .null, .null, .null, .int 0])) :: X) := hD
  refine lv_aload_n hx hb dX5_init_11 rfl (lv_at hl 0 rfl) ?_
  refine lv_sipush (v := 400) hx hb dX5_init_12 (by decide) ?_
  refine nwI (N := 400) hx hb (hts (.arrayClass .int) (List.mem_of_getElem? (i := 4) rfl)) hK hP hD hS hA (by decide) rfl (Nat.le_of_ble_eq_true rfl) (Nat.le_of_ble_eq_true rfl) (Nat.le_of_ble_eq_true rfl) dX5_init_15 (fun q_2 H hP hD hS => ?_)
  refine W.widen (k := 2) (n := 404) (Nat.le_of_ble_eq_true rfl) (Nat.le_of_ble_eq_true rfl) ?_
  have hP : va_P D vwCl (aI cI q_2 400 (fun _ => 0) :: aI cI q_1 4 (fun _ => 0) :: (ro, .inr (5, [.ref q_1, .null, .null, .null, .int 0])) :: X) H := hP
  have hD : va_D A (aI cI q_2 400 (fun _ => 0) :: aI cI q_1 4 (fun _ => 0) :: (ro, .inr (5, [.ref q_1, .null, .null, .null, .int 0])) :: X) := hD
  refine va_putF (D := D) (ci := 5) (v := .ref q_2) (ty := .array .int) (C := RX5) (T := TX5) (N := 5) hx hb hts hiX5 tyX5 tyX5_ok nmX5 hown hK hP hD hS 2 rfl rfl 1 (by decide) (hts (.fieldLink RX5 15 "LedgeLeaps$Routes" "spread" "[I") (List.mem_of_getElem? (i := 6) rfl)) (fun _ h9 => h9) rfl hin rfl (by decide +kernel) rfl rfl (Nat.le_of_ble_eq_true rfl) dX5_init_17 (fun H locs hP hD hS => ?_)
  have hP : va_P D vwCl (aI cI q_2 400 (fun _ => 0) :: aI cI q_1 4 (fun _ => 0) :: (ro, .inr (5, [.ref q_1, .ref q_2, .null, .null, .int 0])) :: X) H := hP
  have hD : va_D A (aI cI q_2 400 (fun _ => 0) :: aI cI q_1 4 (fun _ => 0) :: (ro, .inr (5, [.ref q_1, .ref q_2, .null, .null, .int 0])) :: X) := hD
  refine lv_aload_n hx hb dX5_init_20 rfl (lv_at hl 0 rfl) ?_
  refine lv_bipush (v := 100) hx hb dX5_init_21 (by decide) ?_
  refine nwI (N := 100) hx hb (hts (.arrayClass .int) (List.mem_of_getElem? (i := 4) rfl)) hK hP hD hS hA (by decide) rfl (Nat.le_of_ble_eq_true rfl) (Nat.le_of_ble_eq_true rfl) (Nat.le_of_ble_eq_true rfl) dX5_init_23 (fun q_3 H hP hD hS => ?_)
  refine W.widen (k := 3) (n := 504) (Nat.le_of_ble_eq_true rfl) (Nat.le_of_ble_eq_true rfl) ?_
  have hP : va_P D vwCl (aI cI q_3 100 (fun _ => 0) :: aI cI q_2 400 (fun _ => 0) :: aI cI q_1 4 (fun _ => 0) :: (ro, .inr (5, [.ref q_1, .ref q_2, .null, .null, .int 0])) :: X) H := hP
  have hD : va_D A (aI cI q_3 100 (fun _ => 0) :: aI cI q_2 400 (fun _ => 0) :: aI cI q_1 4 (fun _ => 0) :: (ro, .inr (5, [.ref q_1, .ref q_2, .null, .null, .int 0])) :: X) := hD
  refine va_putF (D := D) (ci := 5) (v := .ref q_3) (ty := .array .int) (C := RX5) (T := TX5) (N := 5) hx hb hts hiX5 tyX5 tyX5_ok nmX5 hown hK hP hD hS 3 rfl rfl 2 (by decide) (hts (.fieldLink RX5 18 "LedgeLeaps$Routes" "queue" "[I") (List.mem_of_getElem? (i := 7) rfl)) (fun _ h9 => h9) rfl hin rfl (by decide +kernel) rfl rfl (Nat.le_of_ble_eq_true rfl) dX5_init_25 (fun H locs hP hD hS => ?_)
  have hP : va_P D vwCl (aI cI q_3 100 (fun _ => 0) :: aI cI q_2 400 (fun _ => 0) :: aI cI q_1 4 (fun _ => 0) :: (ro, .inr (5, [.ref q_1, .ref q_2, .ref q_3, .null, .int 0])) :: X) H := hP
  have hD : va_D A (aI cI q_3 100 (fun _ => 0) :: aI cI q_2 400 (fun _ => 0) :: aI cI q_1 4 (fun _ => 0) :: (ro, .inr (5, [.ref q_1, .ref q_2, .ref q_3, .null, .int 0])) :: X) := hD
  refine lv_aload_n hx hb dX5_init_28 rfl (lv_at hl 0 rfl) ?_
  refine lv_sipush (v := 10000) hx hb dX5_init_29 (by decide) ?_
  refine nwI (N := 10000) hx hb (hts (.arrayClass .int) (List.mem_of_getElem? (i := 4) rfl)) hK hP hD hS hA (by decide) rfl (Nat.le_of_ble_eq_true rfl) (Nat.le_of_ble_eq_true rfl) (Nat.le_of_ble_eq_true rfl) dX5_init_32 (fun q_4 H hP hD hS => ?_)
  refine W.widen (k := 4) (n := 10504) (Nat.le_of_ble_eq_true rfl) (Nat.le_of_ble_eq_true rfl) ?_
  have hP : va_P D vwCl (aI cI q_4 10000 (fun _ => 0) :: aI cI q_3 100 (fun _ => 0) :: aI cI q_2 400 (fun _ => 0) :: aI cI q_1 4 (fun _ => 0) :: (ro, .inr (5, [.ref q_1, .ref q_2, .ref q_3, .null, .int 0])) :: X) H := hP
  have hD : va_D A (aI cI q_4 10000 (fun _ => 0) :: aI cI q_3 100 (fun _ => 0) :: aI cI q_2 400 (fun _ => 0) :: aI cI q_1 4 (fun _ => 0) :: (ro, .inr (5, [.ref q_1, .ref q_2, .ref q_3, .null, .int 0])) :: X) := hD
  refine va_putF (D := D) (ci := 5) (v := .ref q_4) (ty := .array .int) (C := RX5) (T := TX5) (N := 5) hx hb hts hiX5 tyX5 tyX5_ok nmX5 hown hK hP hD hS 4 rfl rfl 3 (by decide) (hts (.fieldLink RX5 21 "LedgeLeaps$Routes" "table" "[I") (List.mem_of_getElem? (i := 8) rfl)) (fun _ h9 => h9) rfl hin rfl (by decide +kernel) rfl rfl (Nat.le_of_ble_eq_true rfl) dX5_init_34 (fun H locs hP hD hS => ?_)
  have hP : va_P D vwCl (aI cI q_4 10000 (fun _ => 0) :: aI cI q_3 100 (fun _ => 0) :: aI cI q_2 400 (fun _ => 0) :: aI cI q_1 4 (fun _ => 0) :: oX5 ro q_1 q_2 q_3 q_4 0 :: X) H := hP
  have hD : va_D A (aI cI q_4 10000 (fun _ => 0) :: aI cI q_3 100 (fun _ => 0) :: aI cI q_2 400 (fun _ => 0) :: aI cI q_1 4 (fun _ => 0) :: oX5 ro q_1 q_2 q_3 q_4 0 :: X) := hD
  have hP : va_P D vwCl (oX5 ro q_1 q_2 q_3 q_4 0 :: aI cI q_1 4 (fun _ => 0) :: aI cI q_2 400 (fun _ => 0) :: aI cI q_3 100 (fun _ => 0) :: aI cI q_4 10000 (fun _ => 0) :: X) H := pm_P hP 5 [4, 3, 2, 1, 0] rfl
  have hD : va_D A (oX5 ro q_1 q_2 q_3 q_4 0 :: aI cI q_1 4 (fun _ => 0) :: aI cI q_2 400 (fun _ => 0) :: aI cI q_3 100 (fun _ => 0) :: aI cI q_4 10000 (fun _ => 0) :: X) := pm_D hD 5 [4, 3, 2, 1, 0] rfl rfl rfl
  exact W.vret hx hb hr (fun t9 ht9 hW9 => ⟨⟨(q_1, q_2, q_3, q_4), rfl, trivial, by rw [ht9]; exact hP, hD⟩, hS.F ht9⟩) hS.2.2 dX5_init_37
set_option maxHeartbeats 4000000 in
set_option maxRecDepth 100000 in
theorem i_History (l : Launch) (D : va_G) (cI cZ cW cJ : ClassId) (A : Nat → Prop) (X : va_W) (hi : Nat) (hist : Nat → KS) : Met l yX1_init wsX1_init ({ frames := 2, cells := 19, slots := 126, locals := 32 }) (va_Pc [.ref hi] (wo D (tyL cI cZ cW cJ) A ((hi, .inr (1, [.int 0, .null])) :: X))) (va_Qv (fun (u : Nat × va_W) => HistR cI cW u.1 hist 0 u.2) (fun (u : Nat × va_W) t => wq D A (oX1 hi 0 u.1 :: (X ++ u.2)) t) A) 19 126 A := by
  refine Met.ofW (cc := cX1_init) (maxL := 2) (ret := none) (by decide) rfl ?_
  intro p e s m args below meth c s₁ B hml hv
  obtain ⟨rfl, ⟨hsz9, hP, hK, hD, hN⟩, hAO⟩ := hv
  have hx := B.exec
  have hb := B.bytes
  have hr := B.returns
  have hts := atoms_spec (ws := wsX1_init) B.pre
  have hown : s.vm.findClass RX1 = some m.cls := findClass_of_methodNamed B.named
  have hlocks := B.notSynchronized
  have hin : meth.name = "<init>" := (name_of_methodNamed B.named B.method).1
  have CF : CallFix p m c cX1_init 2 s _ wsX1_init RX1 := ⟨hx, hb, hml, hown, hts⟩
  have hA : ∀ q : Nat, s.heap.size ≤ q → A q := hsz9
  have hS : va_S A s.heap s.heap [] := va_S.rf
  have hiX1 : ∀ w ∈ u_ws RX1 TX1 2, w ∈ wsX1_init := fun _ h => List.mem_cons_of_mem _ (List.mem_append_left _ (List.mem_append_right _ (h)))
  have hiX7 : ∀ w ∈ u_ws RX7 TX7 7, w ∈ wsX1_init := fun _ h => List.mem_cons_of_mem _ (List.mem_append_right _ (h))
  have hl := lv_entry ([.ref hi]) (n := 2) (Nat.le_of_ble_eq_true rfl)
  rw [lg_entry_eq]
  generalize (lg_sl ([.ref hi]) ++ List.replicate (2 - (lg_sl ([.ref hi])).length) Slot.unset).toArray = ls at hl ⊢
  have hl : lv_has ls 2 [(0, .ref hi)] := hl
  show W p l e ({ frames := 2, cells := 19, slots := 126, locals := 32 } : Room) s m (([.ref hi] : List Value).toArray) below meth c s.heap [] 0 0 (MQ below (va_Qv (fun (u : Nat × va_W) => HistR cI cW u.1 hist 0 u.2) (fun (u : Nat × va_W) t => wq D A (oX1 hi 0 u.1 :: (X ++ u.2)) t) A) (([.ref hi] : List Value).toArray) s 19 126 A) (F0 m 0 ls [])
  refine lv_aload_n hx hb dX1_init_0 rfl (lv_at hl 0 rfl) ?_
  refine W.objInit hx hb hown (hts (.methodLink RX1 3 objectInit) (List.mem_of_getElem? (i := 1) rfl)) (hts (.instanceMethod objectInit) (List.mem_of_getElem? (i := 2) rfl)) (hts (.code objectInit ⟨#[0xb1]⟩ 1 none) (List.mem_of_getElem? (i := 3) rfl)) rfl (by rw [hml]; exact hl.1) rfl dX1_init_1 (Nat.le_of_ble_eq_true rfl) (Nat.le_of_ble_eq_true rfl) ?_
  refine W.eq (g2 := F0 m 4 ls []) rfl ?_
  refine lv_aload_n hx hb dX1_init_4 rfl (lv_at hl 0 rfl) ?_
  refine lv_bipush (v := 6) hx hb dX1_init_5 (by decide) ?_
  refine nwW (N := 6) hx hb hown (hts (.classLink RX1 9 RX7) (List.mem_of_getElem? (i := 4) rfl)) hAO hK hP hD hS hA (by decide) rfl (Nat.le_of_ble_eq_true rfl) (Nat.le_of_ble_eq_true rfl) (Nat.le_of_ble_eq_true rfl) dX1_init_7 (fun q_1 H hP hD hS => ?_)
  refine W.widen (k := 1) (n := 6) (Nat.le_of_ble_eq_true rfl) (Nat.le_of_ble_eq_true rfl) ?_
  have hP : va_P D vwCl (aW cW q_1 6 (fun _ => none) :: (hi, .inr (1, [.int 0, .null])) :: X) H := hP
  have hD : va_D A (aW cW q_1 6 (fun _ => none) :: (hi, .inr (1, [.int 0, .null])) :: X) := hD
  refine va_putF (D := D) (ci := 1) (v := .ref q_1) (ty := .array (.object "LedgeLeaps$World")) (C := RX1) (T := TX1) (N := 2) hx hb hts hiX1 tyX1 tyX1_ok nmX1 hown hK hP hD hS 1 rfl rfl 1 (by decide) (hts (.fieldLink RX1 11 "LedgeLeaps$History" "saved" "[LLedgeLeaps$World;") (List.mem_of_getElem? (i := 5) rfl)) (fun _ h9 => h9) rfl hin rfl (by decide +kernel) rfl rfl (Nat.le_of_ble_eq_true rfl) dX1_init_10 (fun H locs hP hD hS => ?_)
  have hP : va_P D vwCl (aW cW q_1 6 (fun _ => none) :: oX1 hi 0 q_1 :: X) H := hP
  have hD : va_D A (aW cW q_1 6 (fun _ => none) :: oX1 hi 0 q_1 :: X) := hD
  refine lv_iconst (v := 0) hx hb dX1_init_13 (by decide) ?_
  refine lv_istore_n (lv' := [(1, .int 0), (0, .ref hi)]) hx hb dX1_init_14 rfl hl (by decide) rfl (fun ls hl => ?_)
  refine lv_iload_n hx hb dX1_init_15 rfl (lv_at hl 0 rfl) ?_
  refine lv_bipush (v := 6) hx hb dX1_init_16 (by decide) ?_
  have c_18 : ¬ (6 : Int32) ≤ 0 := by decide
  refine lv_icmp_ge (tgt := 40) hx hb dX1_init_18 (by decide) (fun q => absurd q c_18) (fun _ => ?_)
  refine lv_aload_n hx hb dX1_init_21 rfl (lv_at hl 1 rfl) ?_
  refine va_get (D := D) (ci := 1) (v := .ref q_1) (C := RX1) (T := TX1) (N := 2) hx hb hts hiX1 hown hK hP 1 rfl rfl 1 (by decide) (hts (.fieldLink RX1 11 "LedgeLeaps$History" "saved" "[LLedgeLeaps$World;") (List.mem_of_getElem? (i := 5) rfl)) (fun _ h9 => h9) rfl dX1_init_22 ?_
  refine lv_iload_n hx hb dX1_init_25 rfl (lv_at hl 0 rfl) ?_
  refine nwO (ci := 7) (fs := [.null, .null, .int 0, .int 0, .int 0, .int 0, .int 0]) (C := RX7) (T := TX7) (N := 7) hx hb hts hiX7 tyX7 tyX7_ok hown (hts (.classLink RX1 9 RX7) (List.mem_of_getElem? (i := 4) rfl)) (hts (.instantiable RX7 7) (List.mem_of_getElem? (i := 6) rfl)) (hts (.initialized RX7) (List.mem_of_getElem? (i := 7) rfl)) hK hP hD hS hA rfl (fun j hj => by rcases (show j = 0 ∨ j = 1 ∨ j = 2 ∨ j = 3 ∨ j = 4 ∨ j = 5 ∨ j = 6 by omega) with rfl | rfl | rfl | rfl | rfl | rfl | rfl <;> rfl) (Nat.le_of_ble_eq_true rfl) (Nat.le_of_ble_eq_true rfl) dX1_init_26 (fun q_2 H hP hD hS => ?_)
  refine W.widen (k := 2) (n := 13) (Nat.le_of_ble_eq_true rfl) (Nat.le_of_ble_eq_true rfl) ?_
  have hP : va_P D vwCl ((q_2, .inr (7, [.null, .null, .int 0, .int 0, .int 0, .int 0, .int 0])) :: aW cW q_1 6 (fun _ => none) :: oX1 hi 0 q_1 :: X) H := hP
  have hD : va_D A ((q_2, .inr (7, [.null, .null, .int 0, .int 0, .int 0, .int 0, .int 0])) :: aW cW q_1 6 (fun _ => none) :: oX1 hi 0 q_1 :: X) := hD
  refine lv_dup hx hb dX1_init_29 rfl ?_
  refine cIN_v CF hK hN hA hS (cut_of 3 [0, 1, 2] hP hD rfl rfl rfl) (i_World l D cI cZ cW cJ A (aW cW q_1 6 (fun _ => none) :: oX1 hi 0 q_1 :: X) q_2) ⟨va_cnB 0 hts gX1_init_X7_init_n17 rfl rfl rfl (hN (RX1, 17, yX7_init) (List.mem_of_getElem? (i := 7) rfl)) (hts (.initialized RX7) (List.mem_of_getElem? (i := 7) rfl)) (by decide +kernel) ⟨Nat.le_of_ble_eq_true rfl, Nat.le_of_ble_eq_true rfl⟩, rfl, (hts (.instanceMethod yX7_init) (List.mem_of_getElem? (i := 8) rfl))⟩ (As := []) (rest := [.ref q_2, .int 0, .ref q_1]) rfl hl.1 rfl (Nat.le_of_ble_eq_true rfl) dX1_init_30 ⟨Nat.le_of_ble_eq_true rfl, Nat.le_of_ble_eq_true rfl⟩ (fun u_3 H locs hq hP hD hS => ?_)
  have hq_u_3 : True := hq
  refine W.widen (k := 4) (n := 26) (Nat.le_of_ble_eq_true rfl) (Nat.le_of_ble_eq_true rfl) ?_
  have hP : va_P D vwCl (oX7 q_2 u_3.1 u_3.2 0 0 0 0 0 :: aI cI u_3.1 10 (fun _ => 0) :: aI cI u_3.2 3 set0 :: aW cW q_1 6 (fun _ => none) :: oX1 hi 0 q_1 :: X) H := hP
  have hD : va_D A (oX7 q_2 u_3.1 u_3.2 0 0 0 0 0 :: aI cI u_3.1 10 (fun _ => 0) :: aI cI u_3.2 3 set0 :: aW cW q_1 6 (fun _ => none) :: oX1 hi 0 q_1 :: X) := hD
  refine va_astq hx hb hK hP hD hS 3 2 0 7 rfl rfl rfl rfl (show ¬ ((0 : Int32) < 0 ∨ 6 ≤ (0 : Int32).toNatClampNeg) by decide) dX1_init_33 (fun H locs hP hD hS => ?_)
  have hP : va_P D vwCl (oX7 q_2 u_3.1 u_3.2 0 0 0 0 0 :: aI cI u_3.1 10 (fun _ => 0) :: aI cI u_3.2 3 set0 :: aW cW q_1 6 (va_up (fun _ => none) 0 (some q_2)) :: oX1 hi 0 q_1 :: X) H := hP
  have hD : va_D A (oX7 q_2 u_3.1 u_3.2 0 0 0 0 0 :: aI cI u_3.1 10 (fun _ => 0) :: aI cI u_3.2 3 set0 :: aW cW q_1 6 (va_up (fun _ => none) 0 (some q_2)) :: oX1 hi 0 q_1 :: X) := hD
  refine lv_iinc (v := 1) (lv' := [(1, .int 1), (0, .ref hi)]) hx hb dX1_init_34 hl (k := 0) rfl (by decide) (by decide) rfl (fun ls hl => ?_)
  refine lv_goto (tgt := 15) hx hb dX1_init_37 (by decide) ?_
  refine lv_iload_n hx hb dX1_init_15 rfl (lv_at hl 0 rfl) ?_
  refine lv_bipush (v := 6) hx hb dX1_init_16 (by decide) ?_
  have c_18 : ¬ (6 : Int32) ≤ 1 := by decide
  refine lv_icmp_ge (tgt := 40) hx hb dX1_init_18 (by decide) (fun q => absurd q c_18) (fun _ => ?_)
  refine lv_aload_n hx hb dX1_init_21 rfl (lv_at hl 1 rfl) ?_
  refine va_get (D := D) (ci := 1) (v := .ref q_1) (C := RX1) (T := TX1) (N := 2) hx hb hts hiX1 hown hK hP 4 rfl rfl 1 (by decide) (hts (.fieldLink RX1 11 "LedgeLeaps$History" "saved" "[LLedgeLeaps$World;") (List.mem_of_getElem? (i := 5) rfl)) (fun _ h9 => h9) rfl dX1_init_22 ?_
  refine lv_iload_n hx hb dX1_init_25 rfl (lv_at hl 0 rfl) ?_
  refine nwO (ci := 7) (fs := [.null, .null, .int 0, .int 0, .int 0, .int 0, .int 0]) (C := RX7) (T := TX7) (N := 7) hx hb hts hiX7 tyX7 tyX7_ok hown (hts (.classLink RX1 9 RX7) (List.mem_of_getElem? (i := 4) rfl)) (hts (.instantiable RX7 7) (List.mem_of_getElem? (i := 6) rfl)) (hts (.initialized RX7) (List.mem_of_getElem? (i := 7) rfl)) hK hP hD hS hA rfl (fun j hj => by rcases (show j = 0 ∨ j = 1 ∨ j = 2 ∨ j = 3 ∨ j = 4 ∨ j = 5 ∨ j = 6 by omega) with rfl | rfl | rfl | rfl | rfl | rfl | rfl <;> rfl) (Nat.le_of_ble_eq_true rfl) (Nat.le_of_ble_eq_true rfl) dX1_init_26 (fun q_4 H hP hD hS => ?_)
  refine W.widen (k := 5) (n := 33) (Nat.le_of_ble_eq_true rfl) (Nat.le_of_ble_eq_true rfl) ?_
  have hP : va_P D vwCl ((q_4, .inr (7, [.null, .null, .int 0, .int 0, .int 0, .int 0, .int 0])) :: oX7 q_2 u_3.1 u_3.2 0 0 0 0 0 :: aI cI u_3.1 10 (fun _ => 0) :: aI cI u_3.2 3 set0 :: aW cW q_1 6 (va_up (fun _ => none) 0 (some q_2)) :: oX1 hi 0 q_1 :: X) H := hP
  have hD : va_D A ((q_4, .inr (7, [.null, .null, .int 0, .int 0, .int 0, .int 0, .int 0])) :: oX7 q_2 u_3.1 u_3.2 0 0 0 0 0 :: aI cI u_3.1 10 (fun _ => 0) :: aI cI u_3.2 3 set0 :: aW cW q_1 6 (va_up (fun _ => none) 0 (some q_2)) :: oX1 hi 0 q_1 :: X) := hD
  refine lv_dup hx hb dX1_init_29 rfl ?_
  refine cIN_v CF hK hN hA hS (cut_of 6 [0, 1, 2, 3, 4, 5] hP hD rfl rfl rfl) (i_World l D cI cZ cW cJ A (oX7 q_2 u_3.1 u_3.2 0 0 0 0 0 :: aI cI u_3.1 10 (fun _ => 0) :: aI cI u_3.2 3 set0 :: aW cW q_1 6 (va_up (fun _ => none) 0 (some q_2)) :: oX1 hi 0 q_1 :: X) q_4) ⟨va_cnB 0 hts gX1_init_X7_init_n17 rfl rfl rfl (hN (RX1, 17, yX7_init) (List.mem_of_getElem? (i := 7) rfl)) (hts (.initialized RX7) (List.mem_of_getElem? (i := 7) rfl)) (by decide +kernel) ⟨Nat.le_of_ble_eq_true rfl, Nat.le_of_ble_eq_true rfl⟩, rfl, (hts (.instanceMethod yX7_init) (List.mem_of_getElem? (i := 8) rfl))⟩ (As := []) (rest := [.ref q_4, .int 1, .ref q_1]) rfl hl.1 rfl (Nat.le_of_ble_eq_true rfl) dX1_init_30 ⟨Nat.le_of_ble_eq_true rfl, Nat.le_of_ble_eq_true rfl⟩ (fun u_5 H locs hq hP hD hS => ?_)
  have hq_u_5 : True := hq
  refine W.widen (k := 7) (n := 46) (Nat.le_of_ble_eq_true rfl) (Nat.le_of_ble_eq_true rfl) ?_
  have hP : va_P D vwCl (oX7 q_4 u_5.1 u_5.2 0 0 0 0 0 :: aI cI u_5.1 10 (fun _ => 0) :: aI cI u_5.2 3 set0 :: oX7 q_2 u_3.1 u_3.2 0 0 0 0 0 :: aI cI u_3.1 10 (fun _ => 0) :: aI cI u_3.2 3 set0 :: aW cW q_1 6 (va_up (fun _ => none) 0 (some q_2)) :: oX1 hi 0 q_1 :: X) H := hP
  have hD : va_D A (oX7 q_4 u_5.1 u_5.2 0 0 0 0 0 :: aI cI u_5.1 10 (fun _ => 0) :: aI cI u_5.2 3 set0 :: oX7 q_2 u_3.1 u_3.2 0 0 0 0 0 :: aI cI u_3.1 10 (fun _ => 0) :: aI cI u_3.2 3 set0 :: aW cW q_1 6 (va_up (fun _ => none) 0 (some q_2)) :: oX1 hi 0 q_1 :: X) := hD
  refine va_astq hx hb hK hP hD hS 6 2 0 7 rfl rfl rfl rfl (show ¬ ((1 : Int32) < 0 ∨ 6 ≤ (1 : Int32).toNatClampNeg) by decide) dX1_init_33 (fun H locs hP hD hS => ?_)
  have hP : va_P D vwCl (oX7 q_4 u_5.1 u_5.2 0 0 0 0 0 :: aI cI u_5.1 10 (fun _ => 0) :: aI cI u_5.2 3 set0 :: oX7 q_2 u_3.1 u_3.2 0 0 0 0 0 :: aI cI u_3.1 10 (fun _ => 0) :: aI cI u_3.2 3 set0 :: aW cW q_1 6 (va_up (va_up (fun _ => none) 0 (some q_2)) 1 (some q_4)) :: oX1 hi 0 q_1 :: X) H := hP
  have hD : va_D A (oX7 q_4 u_5.1 u_5.2 0 0 0 0 0 :: aI cI u_5.1 10 (fun _ => 0) :: aI cI u_5.2 3 set0 :: oX7 q_2 u_3.1 u_3.2 0 0 0 0 0 :: aI cI u_3.1 10 (fun _ => 0) :: aI cI u_3.2 3 set0 :: aW cW q_1 6 (va_up (va_up (fun _ => none) 0 (some q_2)) 1 (some q_4)) :: oX1 hi 0 q_1 :: X) := hD
  refine lv_iinc (v := 2) (lv' := [(1, .int 2), (0, .ref hi)]) hx hb dX1_init_34 hl (k := 0) rfl (by decide) (by decide) rfl (fun ls hl => ?_)
  refine lv_goto (tgt := 15) hx hb dX1_init_37 (by decide) ?_
  refine lv_iload_n hx hb dX1_init_15 rfl (lv_at hl 0 rfl) ?_
  refine lv_bipush (v := 6) hx hb dX1_init_16 (by decide) ?_
  have c_18 : ¬ (6 : Int32) ≤ 2 := by decide
  refine lv_icmp_ge (tgt := 40) hx hb dX1_init_18 (by decide) (fun q => absurd q c_18) (fun _ => ?_)
  refine lv_aload_n hx hb dX1_init_21 rfl (lv_at hl 1 rfl) ?_
  refine va_get (D := D) (ci := 1) (v := .ref q_1) (C := RX1) (T := TX1) (N := 2) hx hb hts hiX1 hown hK hP 7 rfl rfl 1 (by decide) (hts (.fieldLink RX1 11 "LedgeLeaps$History" "saved" "[LLedgeLeaps$World;") (List.mem_of_getElem? (i := 5) rfl)) (fun _ h9 => h9) rfl dX1_init_22 ?_
  refine lv_iload_n hx hb dX1_init_25 rfl (lv_at hl 0 rfl) ?_
  refine nwO (ci := 7) (fs := [.null, .null, .int 0, .int 0, .int 0, .int 0, .int 0]) (C := RX7) (T := TX7) (N := 7) hx hb hts hiX7 tyX7 tyX7_ok hown (hts (.classLink RX1 9 RX7) (List.mem_of_getElem? (i := 4) rfl)) (hts (.instantiable RX7 7) (List.mem_of_getElem? (i := 6) rfl)) (hts (.initialized RX7) (List.mem_of_getElem? (i := 7) rfl)) hK hP hD hS hA rfl (fun j hj => by rcases (show j = 0 ∨ j = 1 ∨ j = 2 ∨ j = 3 ∨ j = 4 ∨ j = 5 ∨ j = 6 by omega) with rfl | rfl | rfl | rfl | rfl | rfl | rfl <;> rfl) (Nat.le_of_ble_eq_true rfl) (Nat.le_of_ble_eq_true rfl) dX1_init_26 (fun q_6 H hP hD hS => ?_)
  refine W.widen (k := 8) (n := 53) (Nat.le_of_ble_eq_true rfl) (Nat.le_of_ble_eq_true rfl) ?_
  have hP : va_P D vwCl ((q_6, .inr (7, [.null, .null, .int 0, .int 0, .int 0, .int 0, .int 0])) :: oX7 q_4 u_5.1 u_5.2 0 0 0 0 0 :: aI cI u_5.1 10 (fun _ => 0) :: aI cI u_5.2 3 set0 :: oX7 q_2 u_3.1 u_3.2 0 0 0 0 0 :: aI cI u_3.1 10 (fun _ => 0) :: aI cI u_3.2 3 set0 :: aW cW q_1 6 (va_up (va_up (fun _ => none) 0 (some q_2)) 1 (some q_4)) :: oX1 hi 0 q_1 :: X) H := hP
  have hD : va_D A ((q_6, .inr (7, [.null, .null, .int 0, .int 0, .int 0, .int 0, .int 0])) :: oX7 q_4 u_5.1 u_5.2 0 0 0 0 0 :: aI cI u_5.1 10 (fun _ => 0) :: aI cI u_5.2 3 set0 :: oX7 q_2 u_3.1 u_3.2 0 0 0 0 0 :: aI cI u_3.1 10 (fun _ => 0) :: aI cI u_3.2 3 set0 :: aW cW q_1 6 (va_up (va_up (fun _ => none) 0 (some q_2)) 1 (some q_4)) :: oX1 hi 0 q_1 :: X) := hD
  refine lv_dup hx hb dX1_init_29 rfl ?_
  refine cIN_v CF hK hN hA hS (cut_of 9 [0, 1, 2, 3, 4, 5, 6, 7, 8] hP hD rfl rfl rfl) (i_World l D cI cZ cW cJ A (oX7 q_4 u_5.1 u_5.2 0 0 0 0 0 :: aI cI u_5.1 10 (fun _ => 0) :: aI cI u_5.2 3 set0 :: oX7 q_2 u_3.1 u_3.2 0 0 0 0 0 :: aI cI u_3.1 10 (fun _ => 0) :: aI cI u_3.2 3 set0 :: aW cW q_1 6 (va_up (va_up (fun _ => none) 0 (some q_2)) 1 (some q_4)) :: oX1 hi 0 q_1 :: X) q_6) ⟨va_cnB 0 hts gX1_init_X7_init_n17 rfl rfl rfl (hN (RX1, 17, yX7_init) (List.mem_of_getElem? (i := 7) rfl)) (hts (.initialized RX7) (List.mem_of_getElem? (i := 7) rfl)) (by decide +kernel) ⟨Nat.le_of_ble_eq_true rfl, Nat.le_of_ble_eq_true rfl⟩, rfl, (hts (.instanceMethod yX7_init) (List.mem_of_getElem? (i := 8) rfl))⟩ (As := []) (rest := [.ref q_6, .int 2, .ref q_1]) rfl hl.1 rfl (Nat.le_of_ble_eq_true rfl) dX1_init_30 ⟨Nat.le_of_ble_eq_true rfl, Nat.le_of_ble_eq_true rfl⟩ (fun u_7 H locs hq hP hD hS => ?_)
  have hq_u_7 : True := hq
  refine W.widen (k := 10) (n := 66) (Nat.le_of_ble_eq_true rfl) (Nat.le_of_ble_eq_true rfl) ?_
  have hP : va_P D vwCl (oX7 q_6 u_7.1 u_7.2 0 0 0 0 0 :: aI cI u_7.1 10 (fun _ => 0) :: aI cI u_7.2 3 set0 :: oX7 q_4 u_5.1 u_5.2 0 0 0 0 0 :: aI cI u_5.1 10 (fun _ => 0) :: aI cI u_5.2 3 set0 :: oX7 q_2 u_3.1 u_3.2 0 0 0 0 0 :: aI cI u_3.1 10 (fun _ => 0) :: aI cI u_3.2 3 set0 :: aW cW q_1 6 (va_up (va_up (fun _ => none) 0 (some q_2)) 1 (some q_4)) :: oX1 hi 0 q_1 :: X) H := hP
  have hD : va_D A (oX7 q_6 u_7.1 u_7.2 0 0 0 0 0 :: aI cI u_7.1 10 (fun _ => 0) :: aI cI u_7.2 3 set0 :: oX7 q_4 u_5.1 u_5.2 0 0 0 0 0 :: aI cI u_5.1 10 (fun _ => 0) :: aI cI u_5.2 3 set0 :: oX7 q_2 u_3.1 u_3.2 0 0 0 0 0 :: aI cI u_3.1 10 (fun _ => 0) :: aI cI u_3.2 3 set0 :: aW cW q_1 6 (va_up (va_up (fun _ => none) 0 (some q_2)) 1 (some q_4)) :: oX1 hi 0 q_1 :: X) := hD
  refine va_astq hx hb hK hP hD hS 9 2 0 7 rfl rfl rfl rfl (show ¬ ((2 : Int32) < 0 ∨ 6 ≤ (2 : Int32).toNatClampNeg) by decide) dX1_init_33 (fun H locs hP hD hS => ?_)
  have hP : va_P D vwCl (oX7 q_6 u_7.1 u_7.2 0 0 0 0 0 :: aI cI u_7.1 10 (fun _ => 0) :: aI cI u_7.2 3 set0 :: oX7 q_4 u_5.1 u_5.2 0 0 0 0 0 :: aI cI u_5.1 10 (fun _ => 0) :: aI cI u_5.2 3 set0 :: oX7 q_2 u_3.1 u_3.2 0 0 0 0 0 :: aI cI u_3.1 10 (fun _ => 0) :: aI cI u_3.2 3 set0 :: aW cW q_1 6 (va_up (va_up (va_up (fun _ => none) 0 (some q_2)) 1 (some q_4)) 2 (some q_6)) :: oX1 hi 0 q_1 :: X) H := hP
  have hD : va_D A (oX7 q_6 u_7.1 u_7.2 0 0 0 0 0 :: aI cI u_7.1 10 (fun _ => 0) :: aI cI u_7.2 3 set0 :: oX7 q_4 u_5.1 u_5.2 0 0 0 0 0 :: aI cI u_5.1 10 (fun _ => 0) :: aI cI u_5.2 3 set0 :: oX7 q_2 u_3.1 u_3.2 0 0 0 0 0 :: aI cI u_3.1 10 (fun _ => 0) :: aI cI u_3.2 3 set0 :: aW cW q_1 6 (va_up (va_up (va_up (fun _ => none) 0 (some q_2)) 1 (some q_4)) 2 (some q_6)) :: oX1 hi 0 q_1 :: X) := hD
  refine lv_iinc (v := 3) (lv' := [(1, .int 3), (0, .ref hi)]) hx hb dX1_init_34 hl (k := 0) rfl (by decide) (by decide) rfl (fun ls hl => ?_)
  refine lv_goto (tgt := 15) hx hb dX1_init_37 (by decide) ?_
  refine lv_iload_n hx hb dX1_init_15 rfl (lv_at hl 0 rfl) ?_
  refine lv_bipush (v := 6) hx hb dX1_init_16 (by decide) ?_
  have c_18 : ¬ (6 : Int32) ≤ 3 := by decide
  refine lv_icmp_ge (tgt := 40) hx hb dX1_init_18 (by decide) (fun q => absurd q c_18) (fun _ => ?_)
  refine lv_aload_n hx hb dX1_init_21 rfl (lv_at hl 1 rfl) ?_
  refine va_get (D := D) (ci := 1) (v := .ref q_1) (C := RX1) (T := TX1) (N := 2) hx hb hts hiX1 hown hK hP 10 rfl rfl 1 (by decide) (hts (.fieldLink RX1 11 "LedgeLeaps$History" "saved" "[LLedgeLeaps$World;") (List.mem_of_getElem? (i := 5) rfl)) (fun _ h9 => h9) rfl dX1_init_22 ?_
  refine lv_iload_n hx hb dX1_init_25 rfl (lv_at hl 0 rfl) ?_
  refine nwO (ci := 7) (fs := [.null, .null, .int 0, .int 0, .int 0, .int 0, .int 0]) (C := RX7) (T := TX7) (N := 7) hx hb hts hiX7 tyX7 tyX7_ok hown (hts (.classLink RX1 9 RX7) (List.mem_of_getElem? (i := 4) rfl)) (hts (.instantiable RX7 7) (List.mem_of_getElem? (i := 6) rfl)) (hts (.initialized RX7) (List.mem_of_getElem? (i := 7) rfl)) hK hP hD hS hA rfl (fun j hj => by rcases (show j = 0 ∨ j = 1 ∨ j = 2 ∨ j = 3 ∨ j = 4 ∨ j = 5 ∨ j = 6 by omega) with rfl | rfl | rfl | rfl | rfl | rfl | rfl <;> rfl) (Nat.le_of_ble_eq_true rfl) (Nat.le_of_ble_eq_true rfl) dX1_init_26 (fun q_8 H hP hD hS => ?_)
  refine W.widen (k := 11) (n := 73) (Nat.le_of_ble_eq_true rfl) (Nat.le_of_ble_eq_true rfl) ?_
  have hP : va_P D vwCl ((q_8, .inr (7, [.null, .null, .int 0, .int 0, .int 0, .int 0, .int 0])) :: oX7 q_6 u_7.1 u_7.2 0 0 0 0 0 :: aI cI u_7.1 10 (fun _ => 0) :: aI cI u_7.2 3 set0 :: oX7 q_4 u_5.1 u_5.2 0 0 0 0 0 :: aI cI u_5.1 10 (fun _ => 0) :: aI cI u_5.2 3 set0 :: oX7 q_2 u_3.1 u_3.2 0 0 0 0 0 :: aI cI u_3.1 10 (fun _ => 0) :: aI cI u_3.2 3 set0 :: aW cW q_1 6 (va_up (va_up (va_up (fun _ => none) 0 (some q_2)) 1 (some q_4)) 2 (some q_6)) :: oX1 hi 0 q_1 :: X) H := hP
  have hD : va_D A ((q_8, .inr (7, [.null, .null, .int 0, .int 0, .int 0, .int 0, .int 0])) :: oX7 q_6 u_7.1 u_7.2 0 0 0 0 0 :: aI cI u_7.1 10 (fun _ => 0) :: aI cI u_7.2 3 set0 :: oX7 q_4 u_5.1 u_5.2 0 0 0 0 0 :: aI cI u_5.1 10 (fun _ => 0) :: aI cI u_5.2 3 set0 :: oX7 q_2 u_3.1 u_3.2 0 0 0 0 0 :: aI cI u_3.1 10 (fun _ => 0) :: aI cI u_3.2 3 set0 :: aW cW q_1 6 (va_up (va_up (va_up (fun _ => none) 0 (some q_2)) 1 (some q_4)) 2 (some q_6)) :: oX1 hi 0 q_1 :: X) := hD
  refine lv_dup hx hb dX1_init_29 rfl ?_
  refine cIN_v CF hK hN hA hS (cut_of 12 [0, 1, 2, 3, 4, 5, 6, 7, 8, 9, 10, 11] hP hD rfl rfl rfl) (i_World l D cI cZ cW cJ A (oX7 q_6 u_7.1 u_7.2 0 0 0 0 0 :: aI cI u_7.1 10 (fun _ => 0) :: aI cI u_7.2 3 set0 :: oX7 q_4 u_5.1 u_5.2 0 0 0 0 0 :: aI cI u_5.1 10 (fun _ => 0) :: aI cI u_5.2 3 set0 :: oX7 q_2 u_3.1 u_3.2 0 0 0 0 0 :: aI cI u_3.1 10 (fun _ => 0) :: aI cI u_3.2 3 set0 :: aW cW q_1 6 (va_up (va_up (va_up (fun _ => none) 0 (some q_2)) 1 (some q_4)) 2 (some q_6)) :: oX1 hi 0 q_1 :: X) q_8) ⟨va_cnB 0 hts gX1_init_X7_init_n17 rfl rfl rfl (hN (RX1, 17, yX7_init) (List.mem_of_getElem? (i := 7) rfl)) (hts (.initialized RX7) (List.mem_of_getElem? (i := 7) rfl)) (by decide +kernel) ⟨Nat.le_of_ble_eq_true rfl, Nat.le_of_ble_eq_true rfl⟩, rfl, (hts (.instanceMethod yX7_init) (List.mem_of_getElem? (i := 8) rfl))⟩ (As := []) (rest := [.ref q_8, .int 3, .ref q_1]) rfl hl.1 rfl (Nat.le_of_ble_eq_true rfl) dX1_init_30 ⟨Nat.le_of_ble_eq_true rfl, Nat.le_of_ble_eq_true rfl⟩ (fun u_9 H locs hq hP hD hS => ?_)
  have hq_u_9 : True := hq
  refine W.widen (k := 13) (n := 86) (Nat.le_of_ble_eq_true rfl) (Nat.le_of_ble_eq_true rfl) ?_
  have hP : va_P D vwCl (oX7 q_8 u_9.1 u_9.2 0 0 0 0 0 :: aI cI u_9.1 10 (fun _ => 0) :: aI cI u_9.2 3 set0 :: oX7 q_6 u_7.1 u_7.2 0 0 0 0 0 :: aI cI u_7.1 10 (fun _ => 0) :: aI cI u_7.2 3 set0 :: oX7 q_4 u_5.1 u_5.2 0 0 0 0 0 :: aI cI u_5.1 10 (fun _ => 0) :: aI cI u_5.2 3 set0 :: oX7 q_2 u_3.1 u_3.2 0 0 0 0 0 :: aI cI u_3.1 10 (fun _ => 0) :: aI cI u_3.2 3 set0 :: aW cW q_1 6 (va_up (va_up (va_up (fun _ => none) 0 (some q_2)) 1 (some q_4)) 2 (some q_6)) :: oX1 hi 0 q_1 :: X) H := hP
  have hD : va_D A (oX7 q_8 u_9.1 u_9.2 0 0 0 0 0 :: aI cI u_9.1 10 (fun _ => 0) :: aI cI u_9.2 3 set0 :: oX7 q_6 u_7.1 u_7.2 0 0 0 0 0 :: aI cI u_7.1 10 (fun _ => 0) :: aI cI u_7.2 3 set0 :: oX7 q_4 u_5.1 u_5.2 0 0 0 0 0 :: aI cI u_5.1 10 (fun _ => 0) :: aI cI u_5.2 3 set0 :: oX7 q_2 u_3.1 u_3.2 0 0 0 0 0 :: aI cI u_3.1 10 (fun _ => 0) :: aI cI u_3.2 3 set0 :: aW cW q_1 6 (va_up (va_up (va_up (fun _ => none) 0 (some q_2)) 1 (some q_4)) 2 (some q_6)) :: oX1 hi 0 q_1 :: X) := hD
  refine va_astq hx hb hK hP hD hS 12 2 0 7 rfl rfl rfl rfl (show ¬ ((3 : Int32) < 0 ∨ 6 ≤ (3 : Int32).toNatClampNeg) by decide) dX1_init_33 (fun H locs hP hD hS => ?_)
  have hP : va_P D vwCl (oX7 q_8 u_9.1 u_9.2 0 0 0 0 0 :: aI cI u_9.1 10 (fun _ => 0) :: aI cI u_9.2 3 set0 :: oX7 q_6 u_7.1 u_7.2 0 0 0 0 0 :: aI cI u_7.1 10 (fun _ => 0) :: aI cI u_7.2 3 set0 :: oX7 q_4 u_5.1 u_5.2 0 0 0 0 0 :: aI cI u_5.1 10 (fun _ => 0) :: aI cI u_5.2 3 set0 :: oX7 q_2 u_3.1 u_3.2 0 0 0 0 0 :: aI cI u_3.1 10 (fun _ => 0) :: aI cI u_3.2 3 set0 :: aW cW q_1 6 (va_up (va_up (va_up (va_up (fun _ => none) 0 (some q_2)) 1 (some q_4)) 2 (some q_6)) 3 (some q_8)) :: oX1 hi 0 q_1 :: X) H := hP
  have hD : va_D A (oX7 q_8 u_9.1 u_9.2 0 0 0 0 0 :: aI cI u_9.1 10 (fun _ => 0) :: aI cI u_9.2 3 set0 :: oX7 q_6 u_7.1 u_7.2 0 0 0 0 0 :: aI cI u_7.1 10 (fun _ => 0) :: aI cI u_7.2 3 set0 :: oX7 q_4 u_5.1 u_5.2 0 0 0 0 0 :: aI cI u_5.1 10 (fun _ => 0) :: aI cI u_5.2 3 set0 :: oX7 q_2 u_3.1 u_3.2 0 0 0 0 0 :: aI cI u_3.1 10 (fun _ => 0) :: aI cI u_3.2 3 set0 :: aW cW q_1 6 (va_up (va_up (va_up (va_up (fun _ => none) 0 (some q_2)) 1 (some q_4)) 2 (some q_6)) 3 (some q_8)) :: oX1 hi 0 q_1 :: X) := hD
  refine lv_iinc (v := 4) (lv' := [(1, .int 4), (0, .ref hi)]) hx hb dX1_init_34 hl (k := 0) rfl (by decide) (by decide) rfl (fun ls hl => ?_)
  refine lv_goto (tgt := 15) hx hb dX1_init_37 (by decide) ?_
  refine lv_iload_n hx hb dX1_init_15 rfl (lv_at hl 0 rfl) ?_
  refine lv_bipush (v := 6) hx hb dX1_init_16 (by decide) ?_
  have c_18 : ¬ (6 : Int32) ≤ 4 := by decide
  refine lv_icmp_ge (tgt := 40) hx hb dX1_init_18 (by decide) (fun q => absurd q c_18) (fun _ => ?_)
  refine lv_aload_n hx hb dX1_init_21 rfl (lv_at hl 1 rfl) ?_
  refine va_get (D := D) (ci := 1) (v := .ref q_1) (C := RX1) (T := TX1) (N := 2) hx hb hts hiX1 hown hK hP 13 rfl rfl 1 (by decide) (hts (.fieldLink RX1 11 "LedgeLeaps$History" "saved" "[LLedgeLeaps$World;") (List.mem_of_getElem? (i := 5) rfl)) (fun _ h9 => h9) rfl dX1_init_22 ?_
  refine lv_iload_n hx hb dX1_init_25 rfl (lv_at hl 0 rfl) ?_
  refine nwO (ci := 7) (fs := [.null, .null, .int 0, .int 0, .int 0, .int 0, .int 0]) (C := RX7) (T := TX7) (N := 7) hx hb hts hiX7 tyX7 tyX7_ok hown (hts (.classLink RX1 9 RX7) (List.mem_of_getElem? (i := 4) rfl)) (hts (.instantiable RX7 7) (List.mem_of_getElem? (i := 6) rfl)) (hts (.initialized RX7) (List.mem_of_getElem? (i := 7) rfl)) hK hP hD hS hA rfl (fun j hj => by rcases (show j = 0 ∨ j = 1 ∨ j = 2 ∨ j = 3 ∨ j = 4 ∨ j = 5 ∨ j = 6 by omega) with rfl | rfl | rfl | rfl | rfl | rfl | rfl <;> rfl) (Nat.le_of_ble_eq_true rfl) (Nat.le_of_ble_eq_true rfl) dX1_init_26 (fun q_10 H hP hD hS => ?_)
  refine W.widen (k := 14) (n := 93) (Nat.le_of_ble_eq_true rfl) (Nat.le_of_ble_eq_true rfl) ?_
  have hP : va_P D vwCl ((q_10, .inr (7, [.null, .null, .int 0, .int 0, .int 0, .int 0, .int 0])) :: oX7 q_8 u_9.1 u_9.2 0 0 0 0 0 :: aI cI u_9.1 10 (fun _ => 0) :: aI cI u_9.2 3 set0 :: oX7 q_6 u_7.1 u_7.2 0 0 0 0 0 :: aI cI u_7.1 10 (fun _ => 0) :: aI cI u_7.2 3 set0 :: oX7 q_4 u_5.1 u_5.2 0 0 0 0 0 :: aI cI u_5.1 10 (fun _ => 0) :: aI cI u_5.2 3 set0 :: oX7 q_2 u_3.1 u_3.2 0 0 0 0 0 :: aI cI u_3.1 10 (fun _ => 0) :: aI cI u_3.2 3 set0 :: aW cW q_1 6 (va_up (va_up (va_up (va_up (fun _ => none) 0 (some q_2)) 1 (some q_4)) 2 (some q_6)) 3 (some q_8)) :: oX1 hi 0 q_1 :: X) H := hP
  have hD : va_D A ((q_10, .inr (7, [.null, .null, .int 0, .int 0, .int 0, .int 0, .int 0])) :: oX7 q_8 u_9.1 u_9.2 0 0 0 0 0 :: aI cI u_9.1 10 (fun _ => 0) :: aI cI u_9.2 3 set0 :: oX7 q_6 u_7.1 u_7.2 0 0 0 0 0 :: aI cI u_7.1 10 (fun _ => 0) :: aI cI u_7.2 3 set0 :: oX7 q_4 u_5.1 u_5.2 0 0 0 0 0 :: aI cI u_5.1 10 (fun _ => 0) :: aI cI u_5.2 3 set0 :: oX7 q_2 u_3.1 u_3.2 0 0 0 0 0 :: aI cI u_3.1 10 (fun _ => 0) :: aI cI u_3.2 3 set0 :: aW cW q_1 6 (va_up (va_up (va_up (va_up (fun _ => none) 0 (some q_2)) 1 (some q_4)) 2 (some q_6)) 3 (some q_8)) :: oX1 hi 0 q_1 :: X) := hD
  refine lv_dup hx hb dX1_init_29 rfl ?_
  refine cIN_v CF hK hN hA hS (cut_of 15 [0, 1, 2, 3, 4, 5, 6, 7, 8, 9, 10, 11, 12, 13, 14] hP hD rfl rfl rfl) (i_World l D cI cZ cW cJ A (oX7 q_8 u_9.1 u_9.2 0 0 0 0 0 :: aI cI u_9.1 10 (fun _ => 0) :: aI cI u_9.2 3 set0 :: oX7 q_6 u_7.1 u_7.2 0 0 0 0 0 :: aI cI u_7.1 10 (fun _ => 0) :: aI cI u_7.2 3 set0 :: oX7 q_4 u_5.1 u_5.2 0 0 0 0 0 :: aI cI u_5.1 10 (fun _ => 0) :: aI cI u_5.2 3 set0 :: oX7 q_2 u_3.1 u_3.2 0 0 0 0 0 :: aI cI u_3.1 10 (fun _ => 0) :: aI cI u_3.2 3 set0 :: aW cW q_1 6 (va_up (va_up (va_up (va_up (fun _ => none) 0 (some q_2)) 1 (some q_4)) 2 (some q_6)) 3 (some q_8)) :: oX1 hi 0 q_1 :: X) q_10) ⟨va_cnB 0 hts gX1_init_X7_init_n17 rfl rfl rfl (hN (RX1, 17, yX7_init) (List.mem_of_getElem? (i := 7) rfl)) (hts (.initialized RX7) (List.mem_of_getElem? (i := 7) rfl)) (by decide +kernel) ⟨Nat.le_of_ble_eq_true rfl, Nat.le_of_ble_eq_true rfl⟩, rfl, (hts (.instanceMethod yX7_init) (List.mem_of_getElem? (i := 8) rfl))⟩ (As := []) (rest := [.ref q_10, .int 4, .ref q_1]) rfl hl.1 rfl (Nat.le_of_ble_eq_true rfl) dX1_init_30 ⟨Nat.le_of_ble_eq_true rfl, Nat.le_of_ble_eq_true rfl⟩ (fun u_11 H locs hq hP hD hS => ?_)
  have hq_u_11 : True := hq
  refine W.widen (k := 16) (n := 106) (Nat.le_of_ble_eq_true rfl) (Nat.le_of_ble_eq_true rfl) ?_
  have hP : va_P D vwCl (oX7 q_10 u_11.1 u_11.2 0 0 0 0 0 :: aI cI u_11.1 10 (fun _ => 0) :: aI cI u_11.2 3 set0 :: oX7 q_8 u_9.1 u_9.2 0 0 0 0 0 :: aI cI u_9.1 10 (fun _ => 0) :: aI cI u_9.2 3 set0 :: oX7 q_6 u_7.1 u_7.2 0 0 0 0 0 :: aI cI u_7.1 10 (fun _ => 0) :: aI cI u_7.2 3 set0 :: oX7 q_4 u_5.1 u_5.2 0 0 0 0 0 :: aI cI u_5.1 10 (fun _ => 0) :: aI cI u_5.2 3 set0 :: oX7 q_2 u_3.1 u_3.2 0 0 0 0 0 :: aI cI u_3.1 10 (fun _ => 0) :: aI cI u_3.2 3 set0 :: aW cW q_1 6 (va_up (va_up (va_up (va_up (fun _ => none) 0 (some q_2)) 1 (some q_4)) 2 (some q_6)) 3 (some q_8)) :: oX1 hi 0 q_1 :: X) H := hP
  have hD : va_D A (oX7 q_10 u_11.1 u_11.2 0 0 0 0 0 :: aI cI u_11.1 10 (fun _ => 0) :: aI cI u_11.2 3 set0 :: oX7 q_8 u_9.1 u_9.2 0 0 0 0 0 :: aI cI u_9.1 10 (fun _ => 0) :: aI cI u_9.2 3 set0 :: oX7 q_6 u_7.1 u_7.2 0 0 0 0 0 :: aI cI u_7.1 10 (fun _ => 0) :: aI cI u_7.2 3 set0 :: oX7 q_4 u_5.1 u_5.2 0 0 0 0 0 :: aI cI u_5.1 10 (fun _ => 0) :: aI cI u_5.2 3 set0 :: oX7 q_2 u_3.1 u_3.2 0 0 0 0 0 :: aI cI u_3.1 10 (fun _ => 0) :: aI cI u_3.2 3 set0 :: aW cW q_1 6 (va_up (va_up (va_up (va_up (fun _ => none) 0 (some q_2)) 1 (some q_4)) 2 (some q_6)) 3 (some q_8)) :: oX1 hi 0 q_1 :: X) := hD
  refine va_astq hx hb hK hP hD hS 15 2 0 7 rfl rfl rfl rfl (show ¬ ((4 : Int32) < 0 ∨ 6 ≤ (4 : Int32).toNatClampNeg) by decide) dX1_init_33 (fun H locs hP hD hS => ?_)
  have hP : va_P D vwCl (oX7 q_10 u_11.1 u_11.2 0 0 0 0 0 :: aI cI u_11.1 10 (fun _ => 0) :: aI cI u_11.2 3 set0 :: oX7 q_8 u_9.1 u_9.2 0 0 0 0 0 :: aI cI u_9.1 10 (fun _ => 0) :: aI cI u_9.2 3 set0 :: oX7 q_6 u_7.1 u_7.2 0 0 0 0 0 :: aI cI u_7.1 10 (fun _ => 0) :: aI cI u_7.2 3 set0 :: oX7 q_4 u_5.1 u_5.2 0 0 0 0 0 :: aI cI u_5.1 10 (fun _ => 0) :: aI cI u_5.2 3 set0 :: oX7 q_2 u_3.1 u_3.2 0 0 0 0 0 :: aI cI u_3.1 10 (fun _ => 0) :: aI cI u_3.2 3 set0 :: aW cW q_1 6 (va_up (va_up (va_up (va_up (va_up (fun _ => none) 0 (some q_2)) 1 (some q_4)) 2 (some q_6)) 3 (some q_8)) 4 (some q_10)) :: oX1 hi 0 q_1 :: X) H := hP
  have hD : va_D A (oX7 q_10 u_11.1 u_11.2 0 0 0 0 0 :: aI cI u_11.1 10 (fun _ => 0) :: aI cI u_11.2 3 set0 :: oX7 q_8 u_9.1 u_9.2 0 0 0 0 0 :: aI cI u_9.1 10 (fun _ => 0) :: aI cI u_9.2 3 set0 :: oX7 q_6 u_7.1 u_7.2 0 0 0 0 0 :: aI cI u_7.1 10 (fun _ => 0) :: aI cI u_7.2 3 set0 :: oX7 q_4 u_5.1 u_5.2 0 0 0 0 0 :: aI cI u_5.1 10 (fun _ => 0) :: aI cI u_5.2 3 set0 :: oX7 q_2 u_3.1 u_3.2 0 0 0 0 0 :: aI cI u_3.1 10 (fun _ => 0) :: aI cI u_3.2 3 set0 :: aW cW q_1 6 (va_up (va_up (va_up (va_up (va_up (fun _ => none) 0 (some q_2)) 1 (some q_4)) 2 (some q_6)) 3 (some q_8)) 4 (some q_10)) :: oX1 hi 0 q_1 :: X) := hD
  refine lv_iinc (v := 5) (lv' := [(1, .int 5), (0, .ref hi)]) hx hb dX1_init_34 hl (k := 0) rfl (by decide) (by decide) rfl (fun ls hl => ?_)
  refine lv_goto (tgt := 15) hx hb dX1_init_37 (by decide) ?_
  refine lv_iload_n hx hb dX1_init_15 rfl (lv_at hl 0 rfl) ?_
  refine lv_bipush (v := 6) hx hb dX1_init_16 (by decide) ?_
  have c_18 : ¬ (6 : Int32) ≤ 5 := by decide
  refine lv_icmp_ge (tgt := 40) hx hb dX1_init_18 (by decide) (fun q => absurd q c_18) (fun _ => ?_)
  refine lv_aload_n hx hb dX1_init_21 rfl (lv_at hl 1 rfl) ?_
  refine va_get (D := D) (ci := 1) (v := .ref q_1) (C := RX1) (T := TX1) (N := 2) hx hb hts hiX1 hown hK hP 16 rfl rfl 1 (by decide) (hts (.fieldLink RX1 11 "LedgeLeaps$History" "saved" "[LLedgeLeaps$World;") (List.mem_of_getElem? (i := 5) rfl)) (fun _ h9 => h9) rfl dX1_init_22 ?_
  refine lv_iload_n hx hb dX1_init_25 rfl (lv_at hl 0 rfl) ?_
  refine nwO (ci := 7) (fs := [.null, .null, .int 0, .int 0, .int 0, .int 0, .int 0]) (C := RX7) (T := TX7) (N := 7) hx hb hts hiX7 tyX7 tyX7_ok hown (hts (.classLink RX1 9 RX7) (List.mem_of_getElem? (i := 4) rfl)) (hts (.instantiable RX7 7) (List.mem_of_getElem? (i := 6) rfl)) (hts (.initialized RX7) (List.mem_of_getElem? (i := 7) rfl)) hK hP hD hS hA rfl (fun j hj => by rcases (show j = 0 ∨ j = 1 ∨ j = 2 ∨ j = 3 ∨ j = 4 ∨ j = 5 ∨ j = 6 by omega) with rfl | rfl | rfl | rfl | rfl | rfl | rfl <;> rfl) (Nat.le_of_ble_eq_true rfl) (Nat.le_of_ble_eq_true rfl) dX1_init_26 (fun q_12 H hP hD hS => ?_)
  refine W.widen (k := 17) (n := 113) (Nat.le_of_ble_eq_true rfl) (Nat.le_of_ble_eq_true rfl) ?_
  have hP : va_P D vwCl ((q_12, .inr (7, [.null, .null, .int 0, .int 0, .int 0, .int 0, .int 0])) :: oX7 q_10 u_11.1 u_11.2 0 0 0 0 0 :: aI cI u_11.1 10 (fun _ => 0) :: aI cI u_11.2 3 set0 :: oX7 q_8 u_9.1 u_9.2 0 0 0 0 0 :: aI cI u_9.1 10 (fun _ => 0) :: aI cI u_9.2 3 set0 :: oX7 q_6 u_7.1 u_7.2 0 0 0 0 0 :: aI cI u_7.1 10 (fun _ => 0) :: aI cI u_7.2 3 set0 :: oX7 q_4 u_5.1 u_5.2 0 0 0 0 0 :: aI cI u_5.1 10 (fun _ => 0) :: aI cI u_5.2 3 set0 :: oX7 q_2 u_3.1 u_3.2 0 0 0 0 0 :: aI cI u_3.1 10 (fun _ => 0) :: aI cI u_3.2 3 set0 :: aW cW q_1 6 (va_up (va_up (va_up (va_up (va_up (fun _ => none) 0 (some q_2)) 1 (some q_4)) 2 (some q_6)) 3 (some q_8)) 4 (some q_10)) :: oX1 hi 0 q_1 :: X) H := hP
  have hD : va_D A ((q_12, .inr (7, [.null, .null, .int 0, .int 0, .int 0, .int 0, .int 0])) :: oX7 q_10 u_11.1 u_11.2 0 0 0 0 0 :: aI cI u_11.1 10 (fun _ => 0) :: aI cI u_11.2 3 set0 :: oX7 q_8 u_9.1 u_9.2 0 0 0 0 0 :: aI cI u_9.1 10 (fun _ => 0) :: aI cI u_9.2 3 set0 :: oX7 q_6 u_7.1 u_7.2 0 0 0 0 0 :: aI cI u_7.1 10 (fun _ => 0) :: aI cI u_7.2 3 set0 :: oX7 q_4 u_5.1 u_5.2 0 0 0 0 0 :: aI cI u_5.1 10 (fun _ => 0) :: aI cI u_5.2 3 set0 :: oX7 q_2 u_3.1 u_3.2 0 0 0 0 0 :: aI cI u_3.1 10 (fun _ => 0) :: aI cI u_3.2 3 set0 :: aW cW q_1 6 (va_up (va_up (va_up (va_up (va_up (fun _ => none) 0 (some q_2)) 1 (some q_4)) 2 (some q_6)) 3 (some q_8)) 4 (some q_10)) :: oX1 hi 0 q_1 :: X) := hD
  refine lv_dup hx hb dX1_init_29 rfl ?_
  refine cIN_v CF hK hN hA hS (cut_of 18 [0, 1, 2, 3, 4, 5, 6, 7, 8, 9, 10, 11, 12, 13, 14, 15, 16, 17] hP hD rfl rfl rfl) (i_World l D cI cZ cW cJ A (oX7 q_10 u_11.1 u_11.2 0 0 0 0 0 :: aI cI u_11.1 10 (fun _ => 0) :: aI cI u_11.2 3 set0 :: oX7 q_8 u_9.1 u_9.2 0 0 0 0 0 :: aI cI u_9.1 10 (fun _ => 0) :: aI cI u_9.2 3 set0 :: oX7 q_6 u_7.1 u_7.2 0 0 0 0 0 :: aI cI u_7.1 10 (fun _ => 0) :: aI cI u_7.2 3 set0 :: oX7 q_4 u_5.1 u_5.2 0 0 0 0 0 :: aI cI u_5.1 10 (fun _ => 0) :: aI cI u_5.2 3 set0 :: oX7 q_2 u_3.1 u_3.2 0 0 0 0 0 :: aI cI u_3.1 10 (fun _ => 0) :: aI cI u_3.2 3 set0 :: aW cW q_1 6 (va_up (va_up (va_up (va_up (va_up (fun _ => none) 0 (some q_2)) 1 (some q_4)) 2 (some q_6)) 3 (some q_8)) 4 (some q_10)) :: oX1 hi 0 q_1 :: X) q_12) ⟨va_cnB 0 hts gX1_init_X7_init_n17 rfl rfl rfl (hN (RX1, 17, yX7_init) (List.mem_of_getElem? (i := 7) rfl)) (hts (.initialized RX7) (List.mem_of_getElem? (i := 7) rfl)) (by decide +kernel) ⟨Nat.le_of_ble_eq_true rfl, Nat.le_of_ble_eq_true rfl⟩, rfl, (hts (.instanceMethod yX7_init) (List.mem_of_getElem? (i := 8) rfl))⟩ (As := []) (rest := [.ref q_12, .int 5, .ref q_1]) rfl hl.1 rfl (Nat.le_of_ble_eq_true rfl) dX1_init_30 ⟨Nat.le_of_ble_eq_true rfl, Nat.le_of_ble_eq_true rfl⟩ (fun u_13 H locs hq hP hD hS => ?_)
  have hq_u_13 : True := hq
  refine W.widen (k := 19) (n := 126) (Nat.le_of_ble_eq_true rfl) (Nat.le_of_ble_eq_true rfl) ?_
  have hP : va_P D vwCl (oX7 q_12 u_13.1 u_13.2 0 0 0 0 0 :: aI cI u_13.1 10 (fun _ => 0) :: aI cI u_13.2 3 set0 :: oX7 q_10 u_11.1 u_11.2 0 0 0 0 0 :: aI cI u_11.1 10 (fun _ => 0) :: aI cI u_11.2 3 set0 :: oX7 q_8 u_9.1 u_9.2 0 0 0 0 0 :: aI cI u_9.1 10 (fun _ => 0) :: aI cI u_9.2 3 set0 :: oX7 q_6 u_7.1 u_7.2 0 0 0 0 0 :: aI cI u_7.1 10 (fun _ => 0) :: aI cI u_7.2 3 set0 :: oX7 q_4 u_5.1 u_5.2 0 0 0 0 0 :: aI cI u_5.1 10 (fun _ => 0) :: aI cI u_5.2 3 set0 :: oX7 q_2 u_3.1 u_3.2 0 0 0 0 0 :: aI cI u_3.1 10 (fun _ => 0) :: aI cI u_3.2 3 set0 :: aW cW q_1 6 (va_up (va_up (va_up (va_up (va_up (fun _ => none) 0 (some q_2)) 1 (some q_4)) 2 (some q_6)) 3 (some q_8)) 4 (some q_10)) :: oX1 hi 0 q_1 :: X) H := hP
  have hD : va_D A (oX7 q_12 u_13.1 u_13.2 0 0 0 0 0 :: aI cI u_13.1 10 (fun _ => 0) :: aI cI u_13.2 3 set0 :: oX7 q_10 u_11.1 u_11.2 0 0 0 0 0 :: aI cI u_11.1 10 (fun _ => 0) :: aI cI u_11.2 3 set0 :: oX7 q_8 u_9.1 u_9.2 0 0 0 0 0 :: aI cI u_9.1 10 (fun _ => 0) :: aI cI u_9.2 3 set0 :: oX7 q_6 u_7.1 u_7.2 0 0 0 0 0 :: aI cI u_7.1 10 (fun _ => 0) :: aI cI u_7.2 3 set0 :: oX7 q_4 u_5.1 u_5.2 0 0 0 0 0 :: aI cI u_5.1 10 (fun _ => 0) :: aI cI u_5.2 3 set0 :: oX7 q_2 u_3.1 u_3.2 0 0 0 0 0 :: aI cI u_3.1 10 (fun _ => 0) :: aI cI u_3.2 3 set0 :: aW cW q_1 6 (va_up (va_up (va_up (va_up (va_up (fun _ => none) 0 (some q_2)) 1 (some q_4)) 2 (some q_6)) 3 (some q_8)) 4 (some q_10)) :: oX1 hi 0 q_1 :: X) := hD
  refine va_astq hx hb hK hP hD hS 18 2 0 7 rfl rfl rfl rfl (show ¬ ((5 : Int32) < 0 ∨ 6 ≤ (5 : Int32).toNatClampNeg) by decide) dX1_init_33 (fun H locs hP hD hS => ?_)
  have hP : va_P D vwCl (oX7 q_12 u_13.1 u_13.2 0 0 0 0 0 :: aI cI u_13.1 10 (fun _ => 0) :: aI cI u_13.2 3 set0 :: oX7 q_10 u_11.1 u_11.2 0 0 0 0 0 :: aI cI u_11.1 10 (fun _ => 0) :: aI cI u_11.2 3 set0 :: oX7 q_8 u_9.1 u_9.2 0 0 0 0 0 :: aI cI u_9.1 10 (fun _ => 0) :: aI cI u_9.2 3 set0 :: oX7 q_6 u_7.1 u_7.2 0 0 0 0 0 :: aI cI u_7.1 10 (fun _ => 0) :: aI cI u_7.2 3 set0 :: oX7 q_4 u_5.1 u_5.2 0 0 0 0 0 :: aI cI u_5.1 10 (fun _ => 0) :: aI cI u_5.2 3 set0 :: oX7 q_2 u_3.1 u_3.2 0 0 0 0 0 :: aI cI u_3.1 10 (fun _ => 0) :: aI cI u_3.2 3 set0 :: aW cW q_1 6 (va_up (va_up (va_up (va_up (va_up (va_up (fun _ => none) 0 (some q_2)) 1 (some q_4)) 2 (some q_6)) 3 (some q_8)) 4 (some q_10)) 5 (some q_12)) :: oX1 hi 0 q_1 :: X) H := hP
  have hD : va_D A (oX7 q_12 u_13.1 u_13.2 0 0 0 0 0 :: aI cI u_13.1 10 (fun _ => 0) :: aI cI u_13.2 3 set0 :: oX7 q_10 u_11.1 u_11.2 0 0 0 0 0 :: aI cI u_11.1 10 (fun _ => 0) :: aI cI u_11.2 3 set0 :: oX7 q_8 u_9.1 u_9.2 0 0 0 0 0 :: aI cI u_9.1 10 (fun _ => 0) :: aI cI u_9.2 3 set0 :: oX7 q_6 u_7.1 u_7.2 0 0 0 0 0 :: aI cI u_7.1 10 (fun _ => 0) :: aI cI u_7.2 3 set0 :: oX7 q_4 u_5.1 u_5.2 0 0 0 0 0 :: aI cI u_5.1 10 (fun _ => 0) :: aI cI u_5.2 3 set0 :: oX7 q_2 u_3.1 u_3.2 0 0 0 0 0 :: aI cI u_3.1 10 (fun _ => 0) :: aI cI u_3.2 3 set0 :: aW cW q_1 6 (va_up (va_up (va_up (va_up (va_up (va_up (fun _ => none) 0 (some q_2)) 1 (some q_4)) 2 (some q_6)) 3 (some q_8)) 4 (some q_10)) 5 (some q_12)) :: oX1 hi 0 q_1 :: X) := hD
  refine lv_iinc (v := 6) (lv' := [(1, .int 6), (0, .ref hi)]) hx hb dX1_init_34 hl (k := 0) rfl (by decide) (by decide) rfl (fun ls hl => ?_)
  refine lv_goto (tgt := 15) hx hb dX1_init_37 (by decide) ?_
  refine lv_iload_n hx hb dX1_init_15 rfl (lv_at hl 0 rfl) ?_
  refine lv_bipush (v := 6) hx hb dX1_init_16 (by decide) ?_
  have c_18 : (6 : Int32) ≤ 6 := by decide
  refine lv_icmp_ge (tgt := 40) hx hb dX1_init_18 (by decide) (fun _ => ?_) (fun q => absurd c_18 q)
  have hP : va_P D vwCl (oX1 hi 0 q_1 :: aW cW q_1 6 (va_up (va_up (va_up (va_up (va_up (va_up (fun _ => none) 0 (some q_2)) 1 (some q_4)) 2 (some q_6)) 3 (some q_8)) 4 (some q_10)) 5 (some q_12)) :: oX7 q_2 u_3.1 u_3.2 0 0 0 0 0 :: aI cI u_3.1 10 (fun _ => 0) :: aI cI u_3.2 3 set0 :: oX7 q_4 u_5.1 u_5.2 0 0 0 0 0 :: aI cI u_5.1 10 (fun _ => 0) :: aI cI u_5.2 3 set0 :: oX7 q_6 u_7.1 u_7.2 0 0 0 0 0 :: aI cI u_7.1 10 (fun _ => 0) :: aI cI u_7.2 3 set0 :: oX7 q_8 u_9.1 u_9.2 0 0 0 0 0 :: aI cI u_9.1 10 (fun _ => 0) :: aI cI u_9.2 3 set0 :: oX7 q_10 u_11.1 u_11.2 0 0 0 0 0 :: aI cI u_11.1 10 (fun _ => 0) :: aI cI u_11.2 3 set0 :: oX7 q_12 u_13.1 u_13.2 0 0 0 0 0 :: aI cI u_13.1 10 (fun _ => 0) :: aI cI u_13.2 3 set0 :: X) H := pm_P hP 20 [19, 18, 15, 16, 17, 12, 13, 14, 9, 10, 11, 6, 7, 8, 3, 4, 5, 0, 1, 2] rfl
  have hD : va_D A (oX1 hi 0 q_1 :: aW cW q_1 6 (va_up (va_up (va_up (va_up (va_up (va_up (fun _ => none) 0 (some q_2)) 1 (some q_4)) 2 (some q_6)) 3 (some q_8)) 4 (some q_10)) 5 (some q_12)) :: oX7 q_2 u_3.1 u_3.2 0 0 0 0 0 :: aI cI u_3.1 10 (fun _ => 0) :: aI cI u_3.2 3 set0 :: oX7 q_4 u_5.1 u_5.2 0 0 0 0 0 :: aI cI u_5.1 10 (fun _ => 0) :: aI cI u_5.2 3 set0 :: oX7 q_6 u_7.1 u_7.2 0 0 0 0 0 :: aI cI u_7.1 10 (fun _ => 0) :: aI cI u_7.2 3 set0 :: oX7 q_8 u_9.1 u_9.2 0 0 0 0 0 :: aI cI u_9.1 10 (fun _ => 0) :: aI cI u_9.2 3 set0 :: oX7 q_10 u_11.1 u_11.2 0 0 0 0 0 :: aI cI u_11.1 10 (fun _ => 0) :: aI cI u_11.2 3 set0 :: oX7 q_12 u_13.1 u_13.2 0 0 0 0 0 :: aI cI u_13.1 10 (fun _ => 0) :: aI cI u_13.2 3 set0 :: X) := pm_D hD 20 [19, 18, 15, 16, 17, 12, 13, 14, 9, 10, 11, 6, 7, 8, 3, 4, 5, 0, 1, 2] rfl rfl rfl
  obtain ⟨hP, hD⟩ := toEnd (a := [oX1 hi 0 q_1]) (L := (aW cW q_1 6 (va_up (va_up (va_up (va_up (va_up (va_up (fun _ => none) 0 (some q_2)) 1 (some q_4)) 2 (some q_6)) 3 (some q_8)) 4 (some q_10)) 5 (some q_12)) :: oX7 q_2 u_3.1 u_3.2 0 0 0 0 0 :: aI cI u_3.1 10 (fun _ => 0) :: aI cI u_3.2 3 set0 :: oX7 q_4 u_5.1 u_5.2 0 0 0 0 0 :: aI cI u_5.1 10 (fun _ => 0) :: aI cI u_5.2 3 set0 :: oX7 q_6 u_7.1 u_7.2 0 0 0 0 0 :: aI cI u_7.1 10 (fun _ => 0) :: aI cI u_7.2 3 set0 :: oX7 q_8 u_9.1 u_9.2 0 0 0 0 0 :: aI cI u_9.1 10 (fun _ => 0) :: aI cI u_9.2 3 set0 :: oX7 q_10 u_11.1 u_11.2 0 0 0 0 0 :: aI cI u_11.1 10 (fun _ => 0) :: aI cI u_11.2 3 set0 :: oX7 q_12 u_13.1 u_13.2 0 0 0 0 0 :: aI cI u_13.1 10 (fun _ => 0) :: aI cI u_13.2 3 set0 :: [] : va_W)) (X := X) hP hD
  exact W.vret hx hb hr (fun t9 ht9 hW9 => ⟨⟨(q_1, (aW cW q_1 6 (va_up (va_up (va_up (va_up (va_up (va_up (fun _ => none) 0 (some q_2)) 1 (some q_4)) 2 (some q_6)) 3 (some q_8)) 4 (some q_10)) 5 (some q_12)) :: oX7 q_2 u_3.1 u_3.2 0 0 0 0 0 :: aI cI u_3.1 10 (fun _ => 0) :: aI cI u_3.2 3 set0 :: oX7 q_4 u_5.1 u_5.2 0 0 0 0 0 :: aI cI u_5.1 10 (fun _ => 0) :: aI cI u_5.2 3 set0 :: oX7 q_6 u_7.1 u_7.2 0 0 0 0 0 :: aI cI u_7.1 10 (fun _ => 0) :: aI cI u_7.2 3 set0 :: oX7 q_8 u_9.1 u_9.2 0 0 0 0 0 :: aI cI u_9.1 10 (fun _ => 0) :: aI cI u_9.2 3 set0 :: oX7 q_10 u_11.1 u_11.2 0 0 0 0 0 :: aI cI u_11.1 10 (fun _ => 0) :: aI cI u_11.2 3 set0 :: oX7 q_12 u_13.1 u_13.2 0 0 0 0 0 :: aI cI u_13.1 10 (fun _ => 0) :: aI cI u_13.2 3 set0 :: [] : va_W)), rfl, HistR.nil hist q_2 q_4 q_6 q_8 q_10 q_12 u_3.1 u_5.1 u_7.1 u_9.1 u_11.1 u_13.1 u_3.2 u_5.2 u_7.2 u_9.2 u_11.2 u_13.2, by rw [ht9]; exact hP, hD⟩, hS.F ht9⟩) hS.2.2 dX1_init_40
set_option maxHeartbeats 4000000 in
set_option maxRecDepth 100000 in
theorem i_Snapshots (l : Launch) (D : va_G) (cI cZ cW cJ : ClassId) (A : Nat → Prop) (X : va_W) (sn : Nat) (slot : Nat → KS) : Met l yX6_init wsX6_init ({ frames := 2, cells := 8, slots := 44, locals := 32 }) (va_Pc [.ref sn] (wo D (tyL cI cZ cW cJ) A ((sn, .inr (6, [.null, .null])) :: X))) (va_Qv (fun (u : Nat × Nat × va_W) => SnapR cI cZ cW u.1 u.2.1 slot (fun _ => false) u.2.2) (fun (u : Nat × Nat × va_W) t => wq D A (oX6 sn u.1 u.2.1 :: (X ++ u.2.2)) t) A) 8 44 A := by
  refine Met.ofW (cc := cX6_init) (maxL := 2) (ret := none) (by decide) rfl ?_
  intro p e s m args below meth c s₁ B hml hv
  obtain ⟨rfl, ⟨hsz9, hP, hK, hD, hN⟩, hAO⟩ := hv
  have hx := B.exec
  have hb := B.bytes
  have hr := B.returns
  have hts := atoms_spec (ws := wsX6_init) B.pre
  have hown : s.vm.findClass RX6 = some m.cls := findClass_of_methodNamed B.named
  have hlocks := B.notSynchronized
  have hin : meth.name = "<init>" := (name_of_methodNamed B.named B.method).1
  have CF : CallFix p m c cX6_init 2 s _ wsX6_init RX6 := ⟨hx, hb, hml, hown, hts⟩
  have hA : ∀ q : Nat, s.heap.size ≤ q → A q := hsz9
  have hS : va_S A s.heap s.heap [] := va_S.rf
  have hiX6 : ∀ w ∈ u_ws RX6 TX6 2, w ∈ wsX6_init := fun _ h => List.mem_cons_of_mem _ (List.mem_append_left _ (List.mem_append_right _ (h)))
  have hiX7 : ∀ w ∈ u_ws RX7 TX7 7, w ∈ wsX6_init := fun _ h => List.mem_cons_of_mem _ (List.mem_append_right _ (h))
  have hl := lv_entry ([.ref sn]) (n := 2) (Nat.le_of_ble_eq_true rfl)
  rw [lg_entry_eq]
  generalize (lg_sl ([.ref sn]) ++ List.replicate (2 - (lg_sl ([.ref sn])).length) Slot.unset).toArray = ls at hl ⊢
  have hl : lv_has ls 2 [(0, .ref sn)] := hl
  show W p l e ({ frames := 2, cells := 8, slots := 44, locals := 32 } : Room) s m (([.ref sn] : List Value).toArray) below meth c s.heap [] 0 0 (MQ below (va_Qv (fun (u : Nat × Nat × va_W) => SnapR cI cZ cW u.1 u.2.1 slot (fun _ => false) u.2.2) (fun (u : Nat × Nat × va_W) t => wq D A (oX6 sn u.1 u.2.1 :: (X ++ u.2.2)) t) A) (([.ref sn] : List Value).toArray) s 8 44 A) (F0 m 0 ls [])
  refine lv_aload_n hx hb dX6_init_0 rfl (lv_at hl 0 rfl) ?_
  refine W.objInit hx hb hown (hts (.methodLink RX6 3 objectInit) (List.mem_of_getElem? (i := 1) rfl)) (hts (.instanceMethod objectInit) (List.mem_of_getElem? (i := 2) rfl)) (hts (.code objectInit ⟨#[0xb1]⟩ 1 none) (List.mem_of_getElem? (i := 3) rfl)) rfl (by rw [hml]; exact hl.1) rfl dX6_init_1 (Nat.le_of_ble_eq_true rfl) (Nat.le_of_ble_eq_true rfl) ?_
  refine W.eq (g2 := F0 m 4 ls []) rfl ?_
  refine lv_aload_n hx hb dX6_init_4 rfl (lv_at hl 0 rfl) ?_
  refine lv_iconst (v := 2) hx hb dX6_init_5 (by decide) ?_
  refine nwW (N := 2) hx hb hown (hts (.classLink RX6 9 RX7) (List.mem_of_getElem? (i := 4) rfl)) hAO hK hP hD hS hA (by decide) rfl (Nat.le_of_ble_eq_true rfl) (Nat.le_of_ble_eq_true rfl) (Nat.le_of_ble_eq_true rfl) dX6_init_6 (fun q_1 H hP hD hS => ?_)
  refine W.widen (k := 1) (n := 2) (Nat.le_of_ble_eq_true rfl) (Nat.le_of_ble_eq_true rfl) ?_
  have hP : va_P D vwCl (aW cW q_1 2 (fun _ => none) :: (sn, .inr (6, [.null, .null])) :: X) H := hP
  have hD : va_D A (aW cW q_1 2 (fun _ => none) :: (sn, .inr (6, [.null, .null])) :: X) := hD
  refine va_putF (D := D) (ci := 6) (v := .ref q_1) (ty := .array (.object "LedgeLeaps$World")) (C := RX6) (T := TX6) (N := 2) hx hb hts hiX6 tyX6 tyX6_ok nmX6 hown hK hP hD hS 1 rfl rfl 0 (by decide) (hts (.fieldLink RX6 11 "LedgeLeaps$Snapshots" "kept" "[LLedgeLeaps$World;") (List.mem_of_getElem? (i := 5) rfl)) (fun _ h9 => h9) rfl hin rfl (by decide +kernel) rfl rfl (Nat.le_of_ble_eq_true rfl) dX6_init_9 (fun H locs hP hD hS => ?_)
  have hP : va_P D vwCl (aW cW q_1 2 (fun _ => none) :: (sn, .inr (6, [.ref q_1, .null])) :: X) H := hP
  have hD : va_D A (aW cW q_1 2 (fun _ => none) :: (sn, .inr (6, [.ref q_1, .null])) :: X) := hD
  refine lv_aload_n hx hb dX6_init_12 rfl (lv_at hl 0 rfl) ?_
  refine lv_iconst (v := 2) hx hb dX6_init_13 (by decide) ?_
  refine nwZ (N := 2) hx hb (hts (.arrayClass .boolean) (List.mem_of_getElem? (i := 6) rfl)) hK hP hD hS hA (by decide) rfl (Nat.le_of_ble_eq_true rfl) (Nat.le_of_ble_eq_true rfl) (Nat.le_of_ble_eq_true rfl) dX6_init_14 (fun q_2 H hP hD hS => ?_)
  refine W.widen (k := 2) (n := 4) (Nat.le_of_ble_eq_true rfl) (Nat.le_of_ble_eq_true rfl) ?_
  have hP : va_P D vwCl (aZ cZ q_2 2 (fun _ => 0) :: aW cW q_1 2 (fun _ => none) :: (sn, .inr (6, [.ref q_1, .null])) :: X) H := hP
  have hD : va_D A (aZ cZ q_2 2 (fun _ => 0) :: aW cW q_1 2 (fun _ => none) :: (sn, .inr (6, [.ref q_1, .null])) :: X) := hD
  refine va_putF (D := D) (ci := 6) (v := .ref q_2) (ty := .array .boolean) (C := RX6) (T := TX6) (N := 2) hx hb hts hiX6 tyX6 tyX6_ok nmX6 hown hK hP hD hS 2 rfl rfl 1 (by decide) (hts (.fieldLink RX6 17 "LedgeLeaps$Snapshots" "taken" "[Z") (List.mem_of_getElem? (i := 7) rfl)) (fun _ h9 => h9) rfl hin rfl (by decide +kernel) rfl rfl (Nat.le_of_ble_eq_true rfl) dX6_init_16 (fun H locs hP hD hS => ?_)
  have hP : va_P D vwCl (aZ cZ q_2 2 (fun _ => 0) :: aW cW q_1 2 (fun _ => none) :: oX6 sn q_1 q_2 :: X) H := hP
  have hD : va_D A (aZ cZ q_2 2 (fun _ => 0) :: aW cW q_1 2 (fun _ => none) :: oX6 sn q_1 q_2 :: X) := hD
  refine lv_iconst (v := 0) hx hb dX6_init_19 (by decide) ?_
  refine lv_istore_n (lv' := [(1, .int 0), (0, .ref sn)]) hx hb dX6_init_20 rfl hl (by decide) rfl (fun ls hl => ?_)
  refine lv_iload_n hx hb dX6_init_21 rfl (lv_at hl 0 rfl) ?_
  refine lv_iconst (v := 2) hx hb dX6_init_22 (by decide) ?_
  have c_23 : ¬ (2 : Int32) ≤ 0 := by decide
  refine lv_icmp_ge (tgt := 45) hx hb dX6_init_23 (by decide) (fun q => absurd q c_23) (fun _ => ?_)
  refine lv_aload_n hx hb dX6_init_26 rfl (lv_at hl 1 rfl) ?_
  refine va_get (D := D) (ci := 6) (v := .ref q_1) (C := RX6) (T := TX6) (N := 2) hx hb hts hiX6 hown hK hP 2 rfl rfl 0 (by decide) (hts (.fieldLink RX6 11 "LedgeLeaps$Snapshots" "kept" "[LLedgeLeaps$World;") (List.mem_of_getElem? (i := 5) rfl)) (fun _ h9 => h9) rfl dX6_init_27 ?_
  refine lv_iload_n hx hb dX6_init_30 rfl (lv_at hl 0 rfl) ?_
  refine nwO (ci := 7) (fs := [.null, .null, .int 0, .int 0, .int 0, .int 0, .int 0]) (C := RX7) (T := TX7) (N := 7) hx hb hts hiX7 tyX7 tyX7_ok hown (hts (.classLink RX6 9 RX7) (List.mem_of_getElem? (i := 4) rfl)) (hts (.instantiable RX7 7) (List.mem_of_getElem? (i := 8) rfl)) (hts (.initialized RX7) (List.mem_of_getElem? (i := 9) rfl)) hK hP hD hS hA rfl (fun j hj => by rcases (show j = 0 ∨ j = 1 ∨ j = 2 ∨ j = 3 ∨ j = 4 ∨ j = 5 ∨ j = 6 by omega) with rfl | rfl | rfl | rfl | rfl | rfl | rfl <;> rfl) (Nat.le_of_ble_eq_true rfl) (Nat.le_of_ble_eq_true rfl) dX6_init_31 (fun q_3 H hP hD hS => ?_)
  refine W.widen (k := 3) (n := 11) (Nat.le_of_ble_eq_true rfl) (Nat.le_of_ble_eq_true rfl) ?_
  have hP : va_P D vwCl ((q_3, .inr (7, [.null, .null, .int 0, .int 0, .int 0, .int 0, .int 0])) :: aZ cZ q_2 2 (fun _ => 0) :: aW cW q_1 2 (fun _ => none) :: oX6 sn q_1 q_2 :: X) H := hP
  have hD : va_D A ((q_3, .inr (7, [.null, .null, .int 0, .int 0, .int 0, .int 0, .int 0])) :: aZ cZ q_2 2 (fun _ => 0) :: aW cW q_1 2 (fun _ => none) :: oX6 sn q_1 q_2 :: X) := hD
  refine lv_dup hx hb dX6_init_34 rfl ?_
  refine cIN_v CF hK hN hA hS (cut_of 4 [0, 1, 2, 3] hP hD rfl rfl rfl) (i_World l D cI cZ cW cJ A (aZ cZ q_2 2 (fun _ => 0) :: aW cW q_1 2 (fun _ => none) :: oX6 sn q_1 q_2 :: X) q_3) ⟨va_cnB 0 hts gX6_init_X7_init_n21 rfl rfl rfl (hN (RX6, 21, yX7_init) (List.mem_of_getElem? (i := 19) rfl)) (hts (.initialized RX7) (List.mem_of_getElem? (i := 9) rfl)) (by decide +kernel) ⟨Nat.le_of_ble_eq_true rfl, Nat.le_of_ble_eq_true rfl⟩, rfl, (hts (.instanceMethod yX7_init) (List.mem_of_getElem? (i := 10) rfl))⟩ (As := []) (rest := [.ref q_3, .int 0, .ref q_1]) rfl hl.1 rfl (Nat.le_of_ble_eq_true rfl) dX6_init_35 ⟨Nat.le_of_ble_eq_true rfl, Nat.le_of_ble_eq_true rfl⟩ (fun u_4 H locs hq hP hD hS => ?_)
  have hq_u_4 : True := hq
  refine W.widen (k := 5) (n := 24) (Nat.le_of_ble_eq_true rfl) (Nat.le_of_ble_eq_true rfl) ?_
  have hP : va_P D vwCl (oX7 q_3 u_4.1 u_4.2 0 0 0 0 0 :: aI cI u_4.1 10 (fun _ => 0) :: aI cI u_4.2 3 set0 :: aZ cZ q_2 2 (fun _ => 0) :: aW cW q_1 2 (fun _ => none) :: oX6 sn q_1 q_2 :: X) H := hP
  have hD : va_D A (oX7 q_3 u_4.1 u_4.2 0 0 0 0 0 :: aI cI u_4.1 10 (fun _ => 0) :: aI cI u_4.2 3 set0 :: aZ cZ q_2 2 (fun _ => 0) :: aW cW q_1 2 (fun _ => none) :: oX6 sn q_1 q_2 :: X) := hD
  refine va_astq hx hb hK hP hD hS 4 2 0 7 rfl rfl rfl rfl (show ¬ ((0 : Int32) < 0 ∨ 2 ≤ (0 : Int32).toNatClampNeg) by decide) dX6_init_38 (fun H locs hP hD hS => ?_)
  have hP : va_P D vwCl (oX7 q_3 u_4.1 u_4.2 0 0 0 0 0 :: aI cI u_4.1 10 (fun _ => 0) :: aI cI u_4.2 3 set0 :: aZ cZ q_2 2 (fun _ => 0) :: aW cW q_1 2 (va_up (fun _ => none) 0 (some q_3)) :: oX6 sn q_1 q_2 :: X) H := hP
  have hD : va_D A (oX7 q_3 u_4.1 u_4.2 0 0 0 0 0 :: aI cI u_4.1 10 (fun _ => 0) :: aI cI u_4.2 3 set0 :: aZ cZ q_2 2 (fun _ => 0) :: aW cW q_1 2 (va_up (fun _ => none) 0 (some q_3)) :: oX6 sn q_1 q_2 :: X) := hD
  refine lv_iinc (v := 1) (lv' := [(1, .int 1), (0, .ref sn)]) hx hb dX6_init_39 hl (k := 0) rfl (by decide) (by decide) rfl (fun ls hl => ?_)
  refine lv_goto (tgt := 21) hx hb dX6_init_42 (by decide) ?_
  refine lv_iload_n hx hb dX6_init_21 rfl (lv_at hl 0 rfl) ?_
  refine lv_iconst (v := 2) hx hb dX6_init_22 (by decide) ?_
  have c_23 : ¬ (2 : Int32) ≤ 1 := by decide
  refine lv_icmp_ge (tgt := 45) hx hb dX6_init_23 (by decide) (fun q => absurd q c_23) (fun _ => ?_)
  refine lv_aload_n hx hb dX6_init_26 rfl (lv_at hl 1 rfl) ?_
  refine va_get (D := D) (ci := 6) (v := .ref q_1) (C := RX6) (T := TX6) (N := 2) hx hb hts hiX6 hown hK hP 5 rfl rfl 0 (by decide) (hts (.fieldLink RX6 11 "LedgeLeaps$Snapshots" "kept" "[LLedgeLeaps$World;") (List.mem_of_getElem? (i := 5) rfl)) (fun _ h9 => h9) rfl dX6_init_27 ?_
  refine lv_iload_n hx hb dX6_init_30 rfl (lv_at hl 0 rfl) ?_
  refine nwO (ci := 7) (fs := [.null, .null, .int 0, .int 0, .int 0, .int 0, .int 0]) (C := RX7) (T := TX7) (N := 7) hx hb hts hiX7 tyX7 tyX7_ok hown (hts (.classLink RX6 9 RX7) (List.mem_of_getElem? (i := 4) rfl)) (hts (.instantiable RX7 7) (List.mem_of_getElem? (i := 8) rfl)) (hts (.initialized RX7) (List.mem_of_getElem? (i := 9) rfl)) hK hP hD hS hA rfl (fun j hj => by rcases (show j = 0 ∨ j = 1 ∨ j = 2 ∨ j = 3 ∨ j = 4 ∨ j = 5 ∨ j = 6 by omega) with rfl | rfl | rfl | rfl | rfl | rfl | rfl <;> rfl) (Nat.le_of_ble_eq_true rfl) (Nat.le_of_ble_eq_true rfl) dX6_init_31 (fun q_5 H hP hD hS => ?_)
  refine W.widen (k := 6) (n := 31) (Nat.le_of_ble_eq_true rfl) (Nat.le_of_ble_eq_true rfl) ?_
  have hP : va_P D vwCl ((q_5, .inr (7, [.null, .null, .int 0, .int 0, .int 0, .int 0, .int 0])) :: oX7 q_3 u_4.1 u_4.2 0 0 0 0 0 :: aI cI u_4.1 10 (fun _ => 0) :: aI cI u_4.2 3 set0 :: aZ cZ q_2 2 (fun _ => 0) :: aW cW q_1 2 (va_up (fun _ => none) 0 (some q_3)) :: oX6 sn q_1 q_2 :: X) H := hP
  have hD : va_D A ((q_5, .inr (7, [.null, .null, .int 0, .int 0, .int 0, .int 0, .int 0])) :: oX7 q_3 u_4.1 u_4.2 0 0 0 0 0 :: aI cI u_4.1 10 (fun _ => 0) :: aI cI u_4.2 3 set0 :: aZ cZ q_2 2 (fun _ => 0) :: aW cW q_1 2 (va_up (fun _ => none) 0 (some q_3)) :: oX6 sn q_1 q_2 :: X) := hD
  refine lv_dup hx hb dX6_init_34 rfl ?_
  refine cIN_v CF hK hN hA hS (cut_of 7 [0, 1, 2, 3, 4, 5, 6] hP hD rfl rfl rfl) (i_World l D cI cZ cW cJ A (oX7 q_3 u_4.1 u_4.2 0 0 0 0 0 :: aI cI u_4.1 10 (fun _ => 0) :: aI cI u_4.2 3 set0 :: aZ cZ q_2 2 (fun _ => 0) :: aW cW q_1 2 (va_up (fun _ => none) 0 (some q_3)) :: oX6 sn q_1 q_2 :: X) q_5) ⟨va_cnB 0 hts gX6_init_X7_init_n21 rfl rfl rfl (hN (RX6, 21, yX7_init) (List.mem_of_getElem? (i := 19) rfl)) (hts (.initialized RX7) (List.mem_of_getElem? (i := 9) rfl)) (by decide +kernel) ⟨Nat.le_of_ble_eq_true rfl, Nat.le_of_ble_eq_true rfl⟩, rfl, (hts (.instanceMethod yX7_init) (List.mem_of_getElem? (i := 10) rfl))⟩ (As := []) (rest := [.ref q_5, .int 1, .ref q_1]) rfl hl.1 rfl (Nat.le_of_ble_eq_true rfl) dX6_init_35 ⟨Nat.le_of_ble_eq_true rfl, Nat.le_of_ble_eq_true rfl⟩ (fun u_6 H locs hq hP hD hS => ?_)
  have hq_u_6 : True := hq
  refine W.widen (k := 8) (n := 44) (Nat.le_of_ble_eq_true rfl) (Nat.le_of_ble_eq_true rfl) ?_
  have hP : va_P D vwCl (oX7 q_5 u_6.1 u_6.2 0 0 0 0 0 :: aI cI u_6.1 10 (fun _ => 0) :: aI cI u_6.2 3 set0 :: oX7 q_3 u_4.1 u_4.2 0 0 0 0 0 :: aI cI u_4.1 10 (fun _ => 0) :: aI cI u_4.2 3 set0 :: aZ cZ q_2 2 (fun _ => 0) :: aW cW q_1 2 (va_up (fun _ => none) 0 (some q_3)) :: oX6 sn q_1 q_2 :: X) H := hP
  have hD : va_D A (oX7 q_5 u_6.1 u_6.2 0 0 0 0 0 :: aI cI u_6.1 10 (fun _ => 0) :: aI cI u_6.2 3 set0 :: oX7 q_3 u_4.1 u_4.2 0 0 0 0 0 :: aI cI u_4.1 10 (fun _ => 0) :: aI cI u_4.2 3 set0 :: aZ cZ q_2 2 (fun _ => 0) :: aW cW q_1 2 (va_up (fun _ => none) 0 (some q_3)) :: oX6 sn q_1 q_2 :: X) := hD
  refine va_astq hx hb hK hP hD hS 7 2 0 7 rfl rfl rfl rfl (show ¬ ((1 : Int32) < 0 ∨ 2 ≤ (1 : Int32).toNatClampNeg) by decide) dX6_init_38 (fun H locs hP hD hS => ?_)
  have hP : va_P D vwCl (oX7 q_5 u_6.1 u_6.2 0 0 0 0 0 :: aI cI u_6.1 10 (fun _ => 0) :: aI cI u_6.2 3 set0 :: oX7 q_3 u_4.1 u_4.2 0 0 0 0 0 :: aI cI u_4.1 10 (fun _ => 0) :: aI cI u_4.2 3 set0 :: aZ cZ q_2 2 (fun _ => 0) :: aW cW q_1 2 (va_up (va_up (fun _ => none) 0 (some q_3)) 1 (some q_5)) :: oX6 sn q_1 q_2 :: X) H := hP
  have hD : va_D A (oX7 q_5 u_6.1 u_6.2 0 0 0 0 0 :: aI cI u_6.1 10 (fun _ => 0) :: aI cI u_6.2 3 set0 :: oX7 q_3 u_4.1 u_4.2 0 0 0 0 0 :: aI cI u_4.1 10 (fun _ => 0) :: aI cI u_4.2 3 set0 :: aZ cZ q_2 2 (fun _ => 0) :: aW cW q_1 2 (va_up (va_up (fun _ => none) 0 (some q_3)) 1 (some q_5)) :: oX6 sn q_1 q_2 :: X) := hD
  refine lv_iinc (v := 2) (lv' := [(1, .int 2), (0, .ref sn)]) hx hb dX6_init_39 hl (k := 0) rfl (by decide) (by decide) rfl (fun ls hl => ?_)
  refine lv_goto (tgt := 21) hx hb dX6_init_42 (by decide) ?_
  refine lv_iload_n hx hb dX6_init_21 rfl (lv_at hl 0 rfl) ?_
  refine lv_iconst (v := 2) hx hb dX6_init_22 (by decide) ?_
  have c_23 : (2 : Int32) ≤ 2 := by decide
  refine lv_icmp_ge (tgt := 45) hx hb dX6_init_23 (by decide) (fun _ => ?_) (fun q => absurd c_23 q)
  have hP : va_P D vwCl (oX6 sn q_1 q_2 :: aW cW q_1 2 (va_up (va_up (fun _ => none) 0 (some q_3)) 1 (some q_5)) :: aZ cZ q_2 2 (fun _ => 0) :: oX7 q_3 u_4.1 u_4.2 0 0 0 0 0 :: aI cI u_4.1 10 (fun _ => 0) :: aI cI u_4.2 3 set0 :: oX7 q_5 u_6.1 u_6.2 0 0 0 0 0 :: aI cI u_6.1 10 (fun _ => 0) :: aI cI u_6.2 3 set0 :: X) H := pm_P hP 9 [8, 7, 6, 3, 4, 5, 0, 1, 2] rfl
  have hD : va_D A (oX6 sn q_1 q_2 :: aW cW q_1 2 (va_up (va_up (fun _ => none) 0 (some q_3)) 1 (some q_5)) :: aZ cZ q_2 2 (fun _ => 0) :: oX7 q_3 u_4.1 u_4.2 0 0 0 0 0 :: aI cI u_4.1 10 (fun _ => 0) :: aI cI u_4.2 3 set0 :: oX7 q_5 u_6.1 u_6.2 0 0 0 0 0 :: aI cI u_6.1 10 (fun _ => 0) :: aI cI u_6.2 3 set0 :: X) := pm_D hD 9 [8, 7, 6, 3, 4, 5, 0, 1, 2] rfl rfl rfl
  obtain ⟨hP, hD⟩ := toEnd (a := [oX6 sn q_1 q_2]) (L := (aW cW q_1 2 (va_up (va_up (fun _ => none) 0 (some q_3)) 1 (some q_5)) :: aZ cZ q_2 2 (fun _ => 0) :: oX7 q_3 u_4.1 u_4.2 0 0 0 0 0 :: aI cI u_4.1 10 (fun _ => 0) :: aI cI u_4.2 3 set0 :: oX7 q_5 u_6.1 u_6.2 0 0 0 0 0 :: aI cI u_6.1 10 (fun _ => 0) :: aI cI u_6.2 3 set0 :: [] : va_W)) (X := X) hP hD
  exact W.vret hx hb hr (fun t9 ht9 hW9 => ⟨⟨(q_1, q_2, (aW cW q_1 2 (va_up (va_up (fun _ => none) 0 (some q_3)) 1 (some q_5)) :: aZ cZ q_2 2 (fun _ => 0) :: oX7 q_3 u_4.1 u_4.2 0 0 0 0 0 :: aI cI u_4.1 10 (fun _ => 0) :: aI cI u_4.2 3 set0 :: oX7 q_5 u_6.1 u_6.2 0 0 0 0 0 :: aI cI u_6.1 10 (fun _ => 0) :: aI cI u_6.2 3 set0 :: [] : va_W)), rfl, SnapR.nil slot q_3 q_5 u_4.1 u_6.1 u_4.2 u_6.2, by rw [ht9]; exact hP, hD⟩, hS.F ht9⟩) hS.2.2 dX6_init_45
