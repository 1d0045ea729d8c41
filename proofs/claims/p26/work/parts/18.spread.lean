set_option maxHeartbeats 4000000 in
set_option maxRecDepth 100000 in
theorem m_forget (l : Launch) (D : va_G) (cI cZ cW cJ : ClassId) (A : Nat → Prop) (X : va_W) (ro rog rsp rqu rta : Nat) (rut : Int32) (gog : Nat → Int32) : Met l yX5_forget wsX5_forget ({ frames := 1, cells := 0, slots := 0, locals := 23 }) (va_Pc [.ref ro] (wd D (tyL cI cZ cW cJ) A (oX5 ro rog rsp rqu rta rut :: aI cI rog 4 gog :: X))) (va_Qv (fun (u : Unit) => True) (fun (u : Unit) t => wq D A (oX5 ro rog rsp rqu rta (-1) :: aI cI rog 4 (fillX (-1) gog 4) :: X) t) A) 0 0 A := by
  refine Met.ofW (cc := cX5_forget) (maxL := 1) (ret := none) (by decide) rfl ?_
  intro p e s m args below meth c s₁ B hml hv
  obtain ⟨rfl, hsz9, hP, hK, hD, hN⟩ := hv
  have hx := B.exec
  have hb := B.bytes
  have hr := B.returns
  have hts := atoms_spec (ws := wsX5_forget) B.pre
  have hown : s.vm.findClass RX5 = some m.cls := findClass_of_methodNamed B.named
  have hlocks := B.notSynchronized
  have CF : CallFix p m c cX5_forget 1 s _ wsX5_forget RX5 := ⟨hx, hb, hml, hown, hts⟩
  have hA : ∀ q : Nat, s.heap.size ≤ q → A q := hsz9
  have hS : va_S A s.heap s.heap [] := va_S.rf
  have hiX5 : ∀ w ∈ u_ws RX5 TX5 5, w ∈ wsX5_forget := fun _ h => List.mem_cons_of_mem _ (List.mem_append_right _ (h))
  have hl := lv_entry ([.ref ro]) (n := 1) (Nat.le_of_ble_eq_true rfl)
  rw [lg_entry_eq]
  generalize (lg_sl ([.ref ro]) ++ List.replicate (1 - (lg_sl ([.ref ro])).length) Slot.unset).toArray = ls at hl ⊢
  have hl : lv_has ls 1 [(0, .ref ro)] := hl
  show W p l e ({ frames := 1, cells := 0, slots := 0, locals := 23 } : Room) s m (([.ref ro] : List Value).toArray) below meth c s.heap [] 0 0 (MQ below (va_Qv (fun (u : Unit) => True) (fun (u : Unit) t => wq D A (oX5 ro rog rsp rqu rta (-1) :: aI cI rog 4 (fillX (-1) gog 4) :: X) t) A) (([.ref ro] : List Value).toArray) s 0 0 A) (F0 m 0 ls [])
  refine lv_aload_n hx hb dX5_forget_0 rfl (lv_at hl 0 rfl) ?_
  refine va_get (D := D) (ci := 5) (v := .ref rog) (C := RX5) (T := TX5) (N := 5) hx hb hts hiX5 hown hK hP 0 rfl rfl 0 (by decide) (hts (.fieldLink RX5 9 "LedgeLeaps$Routes" "origins" "[I") (List.mem_of_getElem? (i := 1) rfl)) (fun _ h9 => h9) rfl dX5_forget_1 ?_
  refine lv_iconst (v := (-1)) hx hb dX5_forget_4 (by decide) ?_
  refine cS_v CF hK hN hA hS (cut_of 2 [1, 0] hP hD rfl rfl rfl) (m_fill l D cI cZ cW cJ A (oX5 ro rog rsp rqu rta rut :: X) rog 4 gog (-1) (by decide)) (va_cwS 2 hts gX5_forget_J7_fill_53178 rfl rfl rfl (by decide +kernel) ⟨Nat.le_of_ble_eq_true rfl, Nat.le_of_ble_eq_true rfl⟩) (As := [.ref rog, .int (-1)]) (rest := []) rfl hl.1 rfl (Nat.le_of_ble_eq_true rfl) dX5_forget_5 ⟨Nat.le_of_ble_eq_true rfl, Nat.le_of_ble_eq_true rfl⟩ (fun _ H locs hq hP hD hS => ?_)
  have hP : va_P D vwCl (oX5 ro rog rsp rqu rta rut :: aI cI rog 4 (fillX (-1) gog 4) :: X) H := pm_P hP 2 [1, 0] rfl
  have hD : va_D A (oX5 ro rog rsp rqu rta rut :: aI cI rog 4 (fillX (-1) gog 4) :: X) := pm_D hD 2 [1, 0] rfl rfl rfl
  refine lv_aload_n hx hb dX5_forget_8 rfl (lv_at hl 0 rfl) ?_
  refine lv_iconst (v := (-1)) hx hb dX5_forget_9 (by decide) ?_
  refine va_put (D := D) (ci := 5) (v := .int (-1)) (ty := .int) (C := RX5) (T := TX5) (N := 5) hx hb hts hiX5 tyX5 tyX5_ok nmX5 hown hK hP hD hS 0 rfl rfl 4 (by decide) (hts (.fieldLink RX5 30 "LedgeLeaps$Routes" "runUpOfTable" "I") (List.mem_of_getElem? (i := 2) rfl)) (fun _ h9 => h9) rfl (by decide +kernel) rfl rfl (Nat.le_of_ble_eq_true rfl) dX5_forget_10 (fun H locs hP hD hS => ?_)
  have hP : va_P D vwCl (oX5 ro rog rsp rqu rta (-1) :: aI cI rog 4 (fillX (-1) gog 4) :: X) H := hP
  have hD : va_D A (oX5 ro rog rsp rqu rta (-1) :: aI cI rog 4 (fillX (-1) gog 4) :: X) := hD
  exact W.vret hx hb hr (fun t9 ht9 hW9 => ⟨⟨(), rfl, trivial, by rw [ht9]; exact hP, hD⟩, hS.F ht9⟩) hS.2.2 dX5_forget_13
set_option maxHeartbeats 4000000 in
set_option maxRecDepth 100000 in
theorem m_bySpread (l : Launch) (D : va_G) (cI cZ cW cJ : ClassId) (A : Nat → Prop) (X : va_W) (ro rog rsp rqu rta : Nat) (rut : Int32) (gsp : Nat → Int32) (ab ak : Nat) (hab : ab < 100) (hak : ak < 4) : Met l yX5_leapsBySpreading wsX5_leapsBySpreading ({ frames := 1, cells := 0, slots := 0, locals := 21 }) (va_Pc [.ref ro, .int (nI ab), .int (nI ak)] (wd D (tyL cI cZ cW cJ) A (oX5 ro rog rsp rqu rta rut :: aI cI rsp 400 gsp :: X))) (va_Qi (fun (r : Int32) (u : Unit) => r = gsp (100 * ak + ab)) (fun (u : Unit) t => wq D A (oX5 ro rog rsp rqu rta rut :: aI cI rsp 400 gsp :: X) t) A) 0 0 A := by
  refine Met.ofW (cc := cX5_leapsBySpreading) (maxL := 3) (ret := (some .int)) (by decide) rfl ?_
  intro p e s m args below meth c s₁ B hml hv
  obtain ⟨rfl, hsz9, hP, hK, hD, hN⟩ := hv
  have hx := B.exec
  have hb := B.bytes
  have hr := B.returns
  have hts := atoms_spec (ws := wsX5_leapsBySpreading) B.pre
  have hown : s.vm.findClass RX5 = some m.cls := findClass_of_methodNamed B.named
  have hlocks := B.notSynchronized
  have CF : CallFix p m c cX5_leapsBySpreading 3 s _ wsX5_leapsBySpreading RX5 := ⟨hx, hb, hml, hown, hts⟩
  have hA : ∀ q : Nat, s.heap.size ≤ q → A q := hsz9
  have hS : va_S A s.heap s.heap [] := va_S.rf
  have hiX5 : ∀ w ∈ u_ws RX5 TX5 5, w ∈ wsX5_leapsBySpreading := fun _ h => List.mem_cons_of_mem _ (List.mem_append_right _ (h))
  have hl := lv_entry ([.ref ro, .int (nI ab), .int (nI ak)]) (n := 3) (Nat.le_of_ble_eq_true rfl)
  rw [lg_entry_eq]
  generalize (lg_sl ([.ref ro, .int (nI ab), .int (nI ak)]) ++ List.replicate (3 - (lg_sl ([.ref ro, .int (nI ab), .int (nI ak)])).length) Slot.unset).toArray = ls at hl ⊢
  have hl : lv_has ls 3 [(0, .ref ro), (1, .int (nI ab)), (2, .int (nI ak))] := hl
  show W p l e ({ frames := 1, cells := 0, slots := 0, locals := 21 } : Room) s m (([.ref ro, .int (nI ab), .int (nI ak)] : List Value).toArray) below meth c s.heap [] 0 0 (MQ below (va_Qi (fun (r : Int32) (u : Unit) => r = gsp (100 * ak + ab)) (fun (u : Unit) t => wq D A (oX5 ro rog rsp rqu rta rut :: aI cI rsp 400 gsp :: X) t) A) (([.ref ro, .int (nI ab), .int (nI ak)] : List Value).toArray) s 0 0 A) (F0 m 0 ls [])
  refine lv_aload_n hx hb dX5_leapsBySpreading_0 rfl (lv_at hl 0 rfl) ?_
  refine va_get (D := D) (ci := 5) (v := .ref rsp) (C := RX5) (T := TX5) (N := 5) hx hb hts hiX5 hown hK hP 0 rfl rfl 1 (by decide) (hts (.fieldLink RX5 15 "LedgeLeaps$Routes" "spread" "[I") (List.mem_of_getElem? (i := 1) rfl)) (fun _ h9 => h9) rfl dX5_leapsBySpreading_1 ?_
  refine lv_iload_n hx hb dX5_leapsBySpreading_4 rfl (lv_at hl 2 rfl) ?_
  refine lv_bipush (v := 100) hx hb dX5_leapsBySpreading_5 (by decide) ?_
  refine lv_imul hx hb dX5_leapsBySpreading_7 ?_
  refine top_i (y := (nI (100 * ak))) (nI_100 ak) ?_
  refine lv_iload_n hx hb dX5_leapsBySpreading_8 rfl (lv_at hl 1 rfl) ?_
  refine lv_iadd hx hb dX5_leapsBySpreading_9 ?_
  refine top_i (y := (nI (100 * ak + ab))) (nI_add _ _) ?_
  refine cSN_i CF hK hN hA hS (cut_of 2 [1, 0] hP hD rfl rfl rfl) (m_at l D cI cZ cW cJ A (oX5 ro rog rsp rqu rta rut :: X) rsp 400 gsp (nI (100 * ak + ab)) (by decide)) ⟨va_cnB 2 hts gX5_leapsBySpreading_X8_at_n34 rfl rfl rfl (hN (RX5, 34, yX8_at) (List.mem_of_getElem? (i := 14) rfl)) (hts (.initialized RX8) (List.mem_of_getElem? (i := 3) rfl)) (by decide +kernel) ⟨Nat.le_of_ble_eq_true rfl, Nat.le_of_ble_eq_true rfl⟩, (hts (.static yX8_at) (List.mem_of_getElem? (i := 2) rfl)), trivial⟩ (As := [.ref rsp, .int (nI (100 * ak + ab))]) (rest := []) rfl hl.1 rfl (Nat.le_of_ble_eq_true rfl) dX5_leapsBySpreading_10 ⟨Nat.le_of_ble_eq_true rfl, Nat.le_of_ble_eq_true rfl⟩ (fun r_10 _ H locs hq hP hD hS => ?_)
  have hq : r_10 = atX 400 gsp (nI (100 * ak + ab)) := hq
  subst hq
  have hP : va_P D vwCl (oX5 ro rog rsp rqu rta rut :: aI cI rsp 400 gsp :: X) H := pm_P hP 2 [1, 0] rfl
  have hD : va_D A (oX5 ro rog rsp rqu rta rut :: aI cI rsp 400 gsp :: X) := pm_D hD 2 [1, 0] rfl rfl rfl
  refine top_i (y := (gsp (100 * ak + ab))) (at_nI (by omega) (by decide)) ?_
  exact W.iret (v := (gsp (100 * ak + ab))) hx hb hr (fun t9 ht9 hW9 => ⟨⟨(gsp (100 * ak + ab)), (), rfl, rfl, by rw [ht9]; exact hP, hD⟩, hS.F ht9⟩) hS.2.2 dX5_leapsBySpreading_13
set_option maxHeartbeats 4000000 in
set_option maxRecDepth 100000 in
theorem m_byTable (l : Launch) (D : va_G) (cI cZ cW cJ : ClassId) (A : Nat → Prop) (X : va_W) (ro rog rsp rqu rta : Nat) (rut : Int32) (gta : Nat → Int32) (aa ab : Nat) (haa : aa < 100) (hab : ab < 100) : Met l yX5_leapsByTable wsX5_leapsByTable ({ frames := 1, cells := 0, slots := 0, locals := 21 }) (va_Pc [.ref ro, .int (nI aa), .int (nI ab)] (wd D (tyL cI cZ cW cJ) A (oX5 ro rog rsp rqu rta rut :: aI cI rta 10000 gta :: X))) (va_Qi (fun (r : Int32) (u : Unit) => r = gta (100 * aa + ab)) (fun (u : Unit) t => wq D A (oX5 ro rog rsp rqu rta rut :: aI cI rta 10000 gta :: X) t) A) 0 0 A := by
  refine Met.ofW (cc := cX5_leapsByTable) (maxL := 3) (ret := (some .int)) (by decide) rfl ?_
  intro p e s m args below meth c s₁ B hml hv
  obtain ⟨rfl, hsz9, hP, hK, hD, hN⟩ := hv
  have hx := B.exec
  have hb := B.bytes
  have hr := B.returns
  have hts := atoms_spec (ws := wsX5_leapsByTable) B.pre
  have hown : s.vm.findClass RX5 = some m.cls := findClass_of_methodNamed B.named
  have hlocks := B.notSynchronized
  have CF : CallFix p m c cX5_leapsByTable 3 s _ wsX5_leapsByTable RX5 := ⟨hx, hb, hml, hown, hts⟩
  have hA : ∀ q : Nat, s.heap.size ≤ q → A q := hsz9
  have hS : va_S A s.heap s.heap [] := va_S.rf
  have hiX5 : ∀ w ∈ u_ws RX5 TX5 5, w ∈ wsX5_leapsByTable := fun _ h => List.mem_cons_of_mem _ (List.mem_append_right _ (h))
  have hl := lv_entry ([.ref ro, .int (nI aa), .int (nI ab)]) (n := 3) (Nat.le_of_ble_eq_true rfl)
  rw [lg_entry_eq]
  generalize (lg_sl ([.ref ro, .int (nI aa), .int (nI ab)]) ++ List.replicate (3 - (lg_sl ([.ref ro, .int (nI aa), .int (nI ab)])).length) Slot.unset).toArray = ls at hl ⊢
  have hl : lv_has ls 3 [(0, .ref ro), (1, .int (nI aa)), (2, .int (nI ab))] := hl
  show W p l e ({ frames := 1, cells := 0, slots := 0, locals := 21 } : Room) s m (([.ref ro, .int (nI aa), .int (nI ab)] : List Value).toArray) below meth c s.heap [] 0 0 (MQ below (va_Qi (fun (r : Int32) (u : Unit) => r = gta (100 * aa + ab)) (fun (u : Unit) t => wq D A (oX5 ro rog rsp rqu rta rut :: aI cI rta 10000 gta :: X) t) A) (([.ref ro, .int (nI aa), .int (nI ab)] : List Value).toArray) s 0 0 A) (F0 m 0 ls [])
  refine lv_aload_n hx hb dX5_leapsByTable_0 rfl (lv_at hl 0 rfl) ?_
  refine va_get (D := D) (ci := 5) (v := .ref rta) (C := RX5) (T := TX5) (N := 5) hx hb hts hiX5 hown hK hP 0 rfl rfl 3 (by decide) (hts (.fieldLink RX5 21 "LedgeLeaps$Routes" "table" "[I") (List.mem_of_getElem? (i := 1) rfl)) (fun _ h9 => h9) rfl dX5_leapsByTable_1 ?_
  refine lv_iload_n hx hb dX5_leapsByTable_4 rfl (lv_at hl 1 rfl) ?_
  refine lv_bipush (v := 100) hx hb dX5_leapsByTable_5 (by decide) ?_
  refine lv_imul hx hb dX5_leapsByTable_7 ?_
  refine top_i (y := (nI (100 * aa))) (nI_100 aa) ?_
  refine lv_iload_n hx hb dX5_leapsByTable_8 rfl (lv_at hl 2 rfl) ?_
  refine lv_iadd hx hb dX5_leapsByTable_9 ?_
  refine top_i (y := (nI (100 * aa + ab))) (nI_add _ _) ?_
  refine cSN_i CF hK hN hA hS (cut_of 2 [1, 0] hP hD rfl rfl rfl) (m_at l D cI cZ cW cJ A (oX5 ro rog rsp rqu rta rut :: X) rta 10000 gta (nI (100 * aa + ab)) (by decide)) ⟨va_cnB 2 hts gX5_leapsByTable_X8_at_n34 rfl rfl rfl (hN (RX5, 34, yX8_at) (List.mem_of_getElem? (i := 14) rfl)) (hts (.initialized RX8) (List.mem_of_getElem? (i := 3) rfl)) (by decide +kernel) ⟨Nat.le_of_ble_eq_true rfl, Nat.le_of_ble_eq_true rfl⟩, (hts (.static yX8_at) (List.mem_of_getElem? (i := 2) rfl)), trivial⟩ (As := [.ref rta, .int (nI (100 * aa + ab))]) (rest := []) rfl hl.1 rfl (Nat.le_of_ble_eq_true rfl) dX5_leapsByTable_10 ⟨Nat.le_of_ble_eq_true rfl, Nat.le_of_ble_eq_true rfl⟩ (fun r_10 _ H locs hq hP hD hS => ?_)
  have hq : r_10 = atX 10000 gta (nI (100 * aa + ab)) := hq
  subst hq
  have hP : va_P D vwCl (oX5 ro rog rsp rqu rta rut :: aI cI rta 10000 gta :: X) H := pm_P hP 2 [1, 0] rfl
  have hD : va_D A (oX5 ro rog rsp rqu rta rut :: aI cI rta 10000 gta :: X) := pm_D hD 2 [1, 0] rfl rfl rfl
  refine top_i (y := (gta (100 * aa + ab))) (at_nI (by omega) (by decide)) ?_
  exact W.iret (v := (gta (100 * aa + ab))) hx hb hr (fun t9 ht9 hW9 => ⟨⟨(gta (100 * aa + ab)), (), rfl, rfl, by rw [ht9]; exact hP, hD⟩, hS.F ht9⟩) hS.2.2 dX5_leapsByTable_13
set_option maxHeartbeats 4000000 in
set_option maxRecDepth 100000 in
theorem m_beginSpread (l : Launch) (D : va_G) (cI cZ cW cJ : ClassId) (A : Nat → Prop) (X : va_W) (ro rog rsp rqu rta : Nat) (rut : Int32) (gsp gqu : Nat → Int32) (ao ak : Nat) (hao : ao < 100) (hak : ak < 4) : Met l yX5_beginSpread wsX5_beginSpread ({ frames := 1, cells := 0, slots := 0, locals := 22 }) (va_Pc [.ref ro, .int (nI ao), .int (nI ak)] (wd D (tyL cI cZ cW cJ) A (oX5 ro rog rsp rqu rta rut :: aI cI rsp 400 gsp :: aI cI rqu 100 gqu :: X))) (va_Qv (fun (u : Unit) => True) (fun (u : Unit) t => wq D A (oX5 ro rog rsp rqu rta rut :: aI cI rsp 400 (upd (spF gsp ak 100) (100 * ak + ao) 0) :: aI cI rqu 100 (upd gqu 0 (nI ao)) :: X) t) A) 0 0 A := by
  refine Met.ofW (cc := cX5_beginSpread) (maxL := 5) (ret := none) (by decide) rfl ?_
  intro p e s m args below meth c s₁ B hml hv
  obtain ⟨rfl, hsz9, hP, hK, hD, hN⟩ := hv
  have hx := B.exec
  have hb := B.bytes
  have hr := B.returns
  have hts := atoms_spec (ws := wsX5_beginSpread) B.pre
  have hown : s.vm.findClass RX5 = some m.cls := findClass_of_methodNamed B.named
  have hlocks := B.notSynchronized
  have CF : CallFix p m c cX5_beginSpread 5 s _ wsX5_beginSpread RX5 := ⟨hx, hb, hml, hown, hts⟩
  have hA : ∀ q : Nat, s.heap.size ≤ q → A q := hsz9
  have hS : va_S A s.heap s.heap [] := va_S.rf
  have hiX5 : ∀ w ∈ u_ws RX5 TX5 5, w ∈ wsX5_beginSpread := fun _ h => List.mem_cons_of_mem _ (List.mem_append_right _ (h))
  have hl := lv_entry ([.ref ro, .int (nI ao), .int (nI ak)]) (n := 5) (Nat.le_of_ble_eq_true rfl)
  rw [lg_entry_eq]
  generalize (lg_sl ([.ref ro, .int (nI ao), .int (nI ak)]) ++ List.replicate (5 - (lg_sl ([.ref ro, .int (nI ao), .int (nI ak)])).length) Slot.unset).toArray = ls at hl ⊢
  have hl : lv_has ls 5 [(0, .ref ro), (1, .int (nI ao)), (2, .int (nI ak))] := hl
  show W p l e ({ frames := 1, cells := 0, slots := 0, locals := 22 } : Room) s m (([.ref ro, .int (nI ao), .int (nI ak)] : List Value).toArray) below meth c s.heap [] 0 0 (MQ below (va_Qv (fun (u : Unit) => True) (fun (u : Unit) t => wq D A (oX5 ro rog rsp rqu rta rut :: aI cI rsp 400 (upd (spF gsp ak 100) (100 * ak + ao) 0) :: aI cI rqu 100 (upd gqu 0 (nI ao)) :: X) t) A) (([.ref ro, .int (nI ao), .int (nI ak)] : List Value).toArray) s 0 0 A) (F0 m 0 ls [])
  refine lv_iload_n hx hb dX5_beginSpread_0 rfl (lv_at hl 2 rfl) ?_
  refine lv_bipush (v := 100) hx hb dX5_beginSpread_1 (by decide) ?_
  refine lv_imul hx hb dX5_beginSpread_3 ?_
  refine top_i (y := (nI (100 * ak))) (nI_100 ak) ?_
  refine lv_istore_n (lv' := [(3, .int (nI (100 * ak))), (0, .ref ro), (1, .int (nI ao)), (2, .int (nI ak))]) hx hb dX5_beginSpread_4 rfl hl (by decide) rfl (fun ls hl => ?_)
  refine lv_iconst (v := 0) hx hb dX5_beginSpread_5 (by decide) ?_
  refine lv_istore (lv' := [(4, .int 0), (3, .int (nI (100 * ak))), (0, .ref ro), (1, .int (nI ao)), (2, .int (nI ak))]) hx hb dX5_beginSpread_6 hl (by decide) rfl (fun ls hl => ?_)
  have loop_8 : ∀ (nfu : Nat) (i : Nat) (hn_8 : 100 - i < nfu) (hi : i ≤ 100) (H : Heap) (locs : List Loc) (hP : va_P D vwCl (oX5 ro rog rsp rqu rta rut :: aI cI rsp 400 (spF gsp ak i) :: aI cI rqu 100 gqu :: X) H) (hD : va_D A (oX5 ro rog rsp rqu rta rut :: aI cI rsp 400 (spF gsp ak i) :: aI cI rqu 100 gqu :: X)) (hS : va_S A s.heap H locs) (ls : Array Slot) (hl : lv_has ls 5 [(4, .int (nI i)), (3, .int (nI (100 * ak))), (0, .ref ro), (1, .int (nI ao)), (2, .int (nI ak))]), W p l e ({ frames := 1, cells := 0, slots := 0, locals := 22 } : Room) s m (([.ref ro, .int (nI ao), .int (nI ak)] : List Value).toArray) below meth c H locs 0 0 (MQ below (va_Qv (fun (u : Unit) => True) (fun (u : Unit) t => wq D A (oX5 ro rog rsp rqu rta rut :: aI cI rsp 400 (upd (spF gsp ak 100) (100 * ak + ao) 0) :: aI cI rqu 100 (upd gqu 0 (nI ao)) :: X) t) A) (([.ref ro, .int (nI ao), .int (nI ak)] : List Value).toArray) s 0 0 A) (F0 m 8 ls []) := by
    intro nfu
    induction nfu with
    | zero => intro i hn_8; exact absurd hn_8 (Nat.not_lt_zero _)
    | succ nfu ih_8 =>
      intro i hn_8 hi H locs hP hD hS ls hl
      refine lv_iload hx hb dX5_beginSpread_8 (lv_at hl 0 rfl) ?_
      refine lv_bipush (v := 100) hx hb dX5_beginSpread_10 (by decide) ?_
      refine lv_icmp_ge (tgt := 33) hx hb dX5_beginSpread_12 (by decide) (fun c_12 => ?_) (fun c_12 => ?_)
      · obtain rfl : i = 100 := by have h := le_of_ge (a := 100) (b := i) (by decide) (by omega) c_12; omega
        refine lv_aload_n hx hb dX5_beginSpread_33 rfl (lv_at hl 2 rfl) ?_
        refine va_get (D := D) (ci := 5) (v := .ref rsp) (C := RX5) (T := TX5) (N := 5) hx hb hts hiX5 hown hK hP 0 rfl rfl 1 (by decide) (hts (.fieldLink RX5 15 "LedgeLeaps$Routes" "spread" "[I") (List.mem_of_getElem? (i := 1) rfl)) (fun _ h9 => h9) rfl dX5_beginSpread_34 ?_
        refine lv_iload_n hx hb dX5_beginSpread_37 rfl (lv_at hl 1 rfl) ?_
        refine lv_iload_n hx hb dX5_beginSpread_38 rfl (lv_at hl 3 rfl) ?_
        refine lv_iadd hx hb dX5_beginSpread_39 ?_
        refine top_i (y := (nI (100 * ak + ao))) (nI_add _ _) ?_
        refine lv_iconst (v := 0) hx hb dX5_beginSpread_40 (by decide) ?_
        refine cSN_v CF hK hN hA hS (cut_of 3 [1, 0, 2] hP hD rfl rfl rfl) (m_store l D cI cZ cW cJ A (oX5 ro rog rsp rqu rta rut :: aI cI rqu 100 gqu :: X) rsp 400 (spF gsp ak 100) (nI (100 * ak + ao)) 0 (by decide)) ⟨va_cnB 3 hts gX5_beginSpread_X8_store_n38 rfl rfl rfl (hN (RX5, 38, yX8_store) (List.mem_of_getElem? (i := 15) rfl)) (hts (.initialized RX8) (List.mem_of_getElem? (i := 4) rfl)) (by decide +kernel) ⟨Nat.le_of_ble_eq_true rfl, Nat.le_of_ble_eq_true rfl⟩, (hts (.static yX8_store) (List.mem_of_getElem? (i := 3) rfl)), trivial⟩ (As := [.ref rsp, .int (nI (100 * ak + ao)), .int 0]) (rest := []) rfl hl.1 rfl (Nat.le_of_ble_eq_true rfl) dX5_beginSpread_41 ⟨Nat.le_of_ble_eq_true rfl, Nat.le_of_ble_eq_true rfl⟩ (fun u_41 H locs hq hP hD hS => ?_)
        have hq_41 : u_41 = stX 400 (spF gsp ak 100) (nI (100 * ak + ao)) 0 := hq
        have hP : va_P D vwCl (oX5 ro rog rsp rqu rta rut :: aI cI rsp 400 u_41 :: aI cI rqu 100 gqu :: X) H := pm_P hP 3 [1, 0, 2] rfl
        have hD : va_D A (oX5 ro rog rsp rqu rta rut :: aI cI rsp 400 u_41 :: aI cI rqu 100 gqu :: X) := pm_D hD 3 [1, 0, 2] rfl rfl rfl
        rw [hq_41, st_nI (by omega) (by decide)] at hP hD
        have hP : va_P D vwCl (oX5 ro rog rsp rqu rta rut :: aI cI rsp 400 (upd (spF gsp ak 100) (100 * ak + ao) 0) :: aI cI rqu 100 gqu :: X) H := hP
        have hD : va_D A (oX5 ro rog rsp rqu rta rut :: aI cI rsp 400 (upd (spF gsp ak 100) (100 * ak + ao) 0) :: aI cI rqu 100 gqu :: X) := hD
        refine lv_aload_n hx hb dX5_beginSpread_44 rfl (lv_at hl 2 rfl) ?_
        refine va_get (D := D) (ci := 5) (v := .ref rqu) (C := RX5) (T := TX5) (N := 5) hx hb hts hiX5 hown hK hP 0 rfl rfl 2 (by decide) (hts (.fieldLink RX5 18 "LedgeLeaps$Routes" "queue" "[I") (List.mem_of_getElem? (i := 2) rfl)) (fun _ h9 => h9) rfl dX5_beginSpread_45 ?_
        refine lv_iconst (v := 0) hx hb dX5_beginSpread_48 (by decide) ?_
        refine lv_iload_n hx hb dX5_beginSpread_49 rfl (lv_at hl 3 rfl) ?_
        refine cSN_v CF hK hN hA hS (cut_of 3 [2, 0, 1] hP hD rfl rfl rfl) (m_store l D cI cZ cW cJ A (oX5 ro rog rsp rqu rta rut :: aI cI rsp 400 (upd (spF gsp ak 100) (100 * ak + ao) 0) :: X) rqu 100 gqu 0 (nI ao) (by decide)) ⟨va_cnB 3 hts gX5_beginSpread_X8_store_n38 rfl rfl rfl (hN (RX5, 38, yX8_store) (List.mem_of_getElem? (i := 15) rfl)) (hts (.initialized RX8) (List.mem_of_getElem? (i := 4) rfl)) (by decide +kernel) ⟨Nat.le_of_ble_eq_true rfl, Nat.le_of_ble_eq_true rfl⟩, (hts (.static yX8_store) (List.mem_of_getElem? (i := 3) rfl)), trivial⟩ (As := [.ref rqu, .int 0, .int (nI ao)]) (rest := []) rfl hl.1 rfl (Nat.le_of_ble_eq_true rfl) dX5_beginSpread_50 ⟨Nat.le_of_ble_eq_true rfl, Nat.le_of_ble_eq_true rfl⟩ (fun u_50 H locs hq hP hD hS => ?_)
        have hq_50 : u_50 = stX 100 gqu 0 (nI ao) := hq
        have hP : va_P D vwCl (oX5 ro rog rsp rqu rta rut :: aI cI rsp 400 (upd (spF gsp ak 100) (100 * ak + ao) 0) :: aI cI rqu 100 u_50 :: X) H := pm_P hP 3 [1, 2, 0] rfl
        have hD : va_D A (oX5 ro rog rsp rqu rta rut :: aI cI rsp 400 (upd (spF gsp ak 100) (100 * ak + ao) 0) :: aI cI rqu 100 u_50 :: X) := pm_D hD 3 [1, 2, 0] rfl rfl rfl
        rw [hq_50, show stX 100 gqu 0 (nI ao) = upd gqu 0 (nI ao) from st_nI (j := 0) (by decide) (by decide)] at hP hD
        have hP : va_P D vwCl (oX5 ro rog rsp rqu rta rut :: aI cI rsp 400 (upd (spF gsp ak 100) (100 * ak + ao) 0) :: aI cI rqu 100 (upd gqu 0 (nI ao)) :: X) H := hP
        have hD : va_D A (oX5 ro rog rsp rqu rta rut :: aI cI rsp 400 (upd (spF gsp ak 100) (100 * ak + ao) 0) :: aI cI rqu 100 (upd gqu 0 (nI ao)) :: X) := hD
        exact W.vret hx hb hr (fun t9 ht9 hW9 => ⟨⟨(), rfl, trivial, by rw [ht9]; exact hP, hD⟩, hS.F ht9⟩) hS.2.2 dX5_beginSpread_53
      · refine lv_aload_n hx hb dX5_beginSpread_15 rfl (lv_at hl 2 rfl) ?_
        refine va_get (D := D) (ci := 5) (v := .ref rsp) (C := RX5) (T := TX5) (N := 5) hx hb hts hiX5 hown hK hP 0 rfl rfl 1 (by decide) (hts (.fieldLink RX5 15 "LedgeLeaps$Routes" "spread" "[I") (List.mem_of_getElem? (i := 1) rfl)) (fun _ h9 => h9) rfl dX5_beginSpread_16 ?_
        refine lv_iload_n hx hb dX5_beginSpread_19 rfl (lv_at hl 1 rfl) ?_
        refine lv_iload hx hb dX5_beginSpread_20 (lv_at hl 0 rfl) ?_
        refine lv_iadd hx hb dX5_beginSpread_22 ?_
        refine top_i (y := (nI (100 * ak + i))) (nI_add _ _) ?_
        refine lv_iconst (v := (-1)) hx hb dX5_beginSpread_23 (by decide) ?_
        refine cSN_v CF hK hN hA hS (cut_of 3 [1, 0, 2] hP hD rfl rfl rfl) (m_store l D cI cZ cW cJ A (oX5 ro rog rsp rqu rta rut :: aI cI rqu 100 gqu :: X) rsp 400 (spF gsp ak i) (nI (100 * ak + i)) (-1) (by decide)) ⟨va_cnB 3 hts gX5_beginSpread_X8_store_n38 rfl rfl rfl (hN (RX5, 38, yX8_store) (List.mem_of_getElem? (i := 15) rfl)) (hts (.initialized RX8) (List.mem_of_getElem? (i := 4) rfl)) (by decide +kernel) ⟨Nat.le_of_ble_eq_true rfl, Nat.le_of_ble_eq_true rfl⟩, (hts (.static yX8_store) (List.mem_of_getElem? (i := 3) rfl)), trivial⟩ (As := [.ref rsp, .int (nI (100 * ak + i)), .int (-1)]) (rest := []) rfl hl.1 rfl (Nat.le_of_ble_eq_true rfl) dX5_beginSpread_24 ⟨Nat.le_of_ble_eq_true rfl, Nat.le_of_ble_eq_true rfl⟩ (fun u_24 H locs hq hP hD hS => ?_)
        have hq_24 : u_24 = stX 400 (spF gsp ak i) (nI (100 * ak + i)) (-1) := hq
        have hP : va_P D vwCl (oX5 ro rog rsp rqu rta rut :: aI cI rsp 400 u_24 :: aI cI rqu 100 gqu :: X) H := pm_P hP 3 [1, 0, 2] rfl
        have hD : va_D A (oX5 ro rog rsp rqu rta rut :: aI cI rsp 400 u_24 :: aI cI rqu 100 gqu :: X) := pm_D hD 3 [1, 0, 2] rfl rfl rfl
        rw [hq_24, st_nI (by have h := lt_of_nge (a := 100) (b := i) (by decide) (by omega) c_12; omega) (by decide), spF_s] at hP hD
        have hP : va_P D vwCl (oX5 ro rog rsp rqu rta rut :: aI cI rsp 400 (spF gsp ak (i + 1)) :: aI cI rqu 100 gqu :: X) H := hP
        have hD : va_D A (oX5 ro rog rsp rqu rta rut :: aI cI rsp 400 (spF gsp ak (i + 1)) :: aI cI rqu 100 gqu :: X) := hD
        refine lv_iinc (v := (nI (i + 1))) (lv' := [(4, .int (nI (i + 1))), (3, .int (nI (100 * ak))), (0, .ref ro), (1, .int (nI ao)), (2, .int (nI ak))]) hx hb dX5_beginSpread_27 hl (k := 0) rfl (nI_1 i) (by decide) rfl (fun ls hl => ?_)
        refine lv_goto (tgt := 8) hx hb dX5_beginSpread_30 (by decide) ?_
        exact ih_8 (i + 1) (by have h := lt_of_nge (a := 100) (b := i) (by decide) (by omega) c_12; omega) (lt_of_nge (a := 100) (b := i) (by decide) (by omega) c_12) _ _ (hP) (hD) hS _ (lv_sub hl [0, 1, 2, 3, 4] rfl)
  rw [← spF_0 gsp ak] at hP hD
  exact loop_8 _ 0 (Nat.lt_succ_self _) (Nat.zero_le _) _ _ hP hD hS _ (lv_sub hl [0, 1, 2, 3, 4] rfl)
set_option maxHeartbeats 4000000 in
set_option maxRecDepth 100000 in
theorem m_spreadFrom (l : Launch) (D : va_G) (cI cZ cW cJ : ClassId) (A : Nat → Prop) (X : va_W) (ro rog rsp rqu rta : Nat) (rut : Int32) (gog gsp gqu : Nat → Int32) (re rl rf : Nat) (glr : Nat → Int32) (sz ao ak : Nat) (hsz : sz ≤ 100) (hao : ao < sz) (hak : ak < 4) (hrt : RtOK glr sz gog gsp) : Met l yX5_spreadFrom wsX5_spreadFrom ({ frames := 3, cells := 0, slots := 0, locals := 67 }) (va_Pc [.ref ro, .ref re, .int (nI ao), .int (nI ak)] (wd D (tyL cI cZ cW cJ) A (oX5 ro rog rsp rqu rta rut :: aI cI rog 4 gog :: aI cI rsp 400 gsp :: aI cI rqu 100 gqu :: oX4 re (nI sz) rl rf :: aI cI rl 10000 glr :: X))) (va_Qv (fun (u : (Nat → Int32) × (Nat → Int32) × (Nat → Int32)) => RtOK glr sz u.1 u.2.1 ∧ u.1 ak = nI ao ∧ ∀ k, k ≠ ak → u.1 k = gog k) (fun (u : (Nat → Int32) × (Nat → Int32) × (Nat → Int32)) t => wq D A (oX5 ro rog rsp rqu rta rut :: aI cI rog 4 u.1 :: aI cI rsp 400 u.2.1 :: aI cI rqu 100 u.2.2 :: oX4 re (nI sz) rl rf :: aI cI rl 10000 glr :: X) t) A) 0 0 A := by
  refine Met.ofW (cc := cX5_spreadFrom) (maxL := 10) (ret := none) (by decide) rfl ?_
  intro p e s m args below meth c s₁ B hml hv
  obtain ⟨rfl, hsz9, hP, hK, hD, hN⟩ := hv
  have hx := B.exec
  have hb := B.bytes
  have hr := B.returns
  have hts := atoms_spec (ws := wsX5_spreadFrom) B.pre
  have hown : s.vm.findClass RX5 = some m.cls := findClass_of_methodNamed B.named
  have hlocks := B.notSynchronized
  have CF : CallFix p m c cX5_spreadFrom 10 s _ wsX5_spreadFrom RX5 := ⟨hx, hb, hml, hown, hts⟩
  have hA : ∀ q : Nat, s.heap.size ≤ q → A q := hsz9
  have hS : va_S A s.heap s.heap [] := va_S.rf
  have hiX4 : ∀ w ∈ u_ws RX4 TX4 3, w ∈ wsX5_spreadFrom := fun _ h => List.mem_cons_of_mem _ (List.mem_append_right _ (h))
  have hiX5 : ∀ w ∈ u_ws RX5 TX5 5, w ∈ wsX5_spreadFrom := fun _ h => List.mem_cons_of_mem _ (List.mem_append_left _ (List.mem_append_right _ (h)))
  have hl := lv_entry ([.ref ro, .ref re, .int (nI ao), .int (nI ak)]) (n := 10) (Nat.le_of_ble_eq_true rfl)
  rw [lg_entry_eq]
  generalize (lg_sl ([.ref ro, .ref re, .int (nI ao), .int (nI ak)]) ++ List.replicate (10 - (lg_sl ([.ref ro, .ref re, .int (nI ao), .int (nI ak)])).length) Slot.unset).toArray = ls at hl ⊢
  have hl : lv_has ls 10 [(0, .ref ro), (1, .ref re), (2, .int (nI ao)), (3, .int (nI ak))] := hl
  show W p l e ({ frames := 3, cells := 0, slots := 0, locals := 67 } : Room) s m (([.ref ro, .ref re, .int (nI ao), .int (nI ak)] : List Value).toArray) below meth c s.heap [] 0 0 (MQ below (va_Qv (fun (u : (Nat → Int32) × (Nat → Int32) × (Nat → Int32)) => RtOK glr sz u.1 u.2.1 ∧ u.1 ak = nI ao ∧ ∀ k, k ≠ ak → u.1 k = gog k) (fun (u : (Nat → Int32) × (Nat → Int32) × (Nat → Int32)) t => wq D A (oX5 ro rog rsp rqu rta rut :: aI cI rog 4 u.1 :: aI cI rsp 400 u.2.1 :: aI cI rqu 100 u.2.2 :: oX4 re (nI sz) rl rf :: aI cI rl 10000 glr :: X) t) A) (([.ref ro, .ref re, .int (nI ao), .int (nI ak)] : List Value).toArray) s 0 0 A) (F0 m 0 ls [])
  refine lv_aload_n hx hb dX5_spreadFrom_0 rfl (lv_at hl 0 rfl) ?_
  refine va_get (D := D) (ci := 5) (v := .ref rog) (C := RX5) (T := TX5) (N := 5) hx hb hts hiX5 hown hK hP 0 rfl rfl 0 (by decide) (hts (.fieldLink RX5 9 "LedgeLeaps$Routes" "origins" "[I") (List.mem_of_getElem? (i := 1) rfl)) (fun _ h9 => h9) rfl dX5_spreadFrom_1 ?_
  refine lv_iload_n hx hb dX5_spreadFrom_4 rfl (lv_at hl 3 rfl) ?_
  refine cSN_i CF hK hN hA hS (cut_of 6 [1, 0, 2, 3, 4, 5] hP hD rfl rfl rfl) (m_at l D cI cZ cW cJ A (oX5 ro rog rsp rqu rta rut :: aI cI rsp 400 gsp :: aI cI rqu 100 gqu :: oX4 re (nI sz) rl rf :: aI cI rl 10000 glr :: X) rog 4 gog (nI ak) (by decide)) ⟨va_cnB 2 hts gX5_spreadFrom_X8_at_n34 rfl rfl rfl (hN (RX5, 34, yX8_at) (List.mem_of_getElem? (i := 14) rfl)) (hts (.initialized RX8) (List.mem_of_getElem? (i := 6) rfl)) (by decide +kernel) ⟨Nat.le_of_ble_eq_true rfl, Nat.le_of_ble_eq_true rfl⟩, (hts (.static yX8_at) (List.mem_of_getElem? (i := 5) rfl)), trivial⟩ (As := [.ref rog, .int (nI ak)]) (rest := []) rfl hl.1 rfl (Nat.le_of_ble_eq_true rfl) dX5_spreadFrom_5 ⟨Nat.le_of_ble_eq_true rfl, Nat.le_of_ble_eq_true rfl⟩ (fun r_5 _ H locs hq hP hD hS => ?_)
  have hq : r_5 = atX 4 gog (nI ak) := hq
  subst hq
  have hP : va_P D vwCl (oX5 ro rog rsp rqu rta rut :: aI cI rog 4 gog :: aI cI rsp 400 gsp :: aI cI rqu 100 gqu :: oX4 re (nI sz) rl rf :: aI cI rl 10000 glr :: X) H := pm_P hP 6 [1, 0, 2, 3, 4, 5] rfl
  have hD : va_D A (oX5 ro rog rsp rqu rta rut :: aI cI rog 4 gog :: aI cI rsp 400 gsp :: aI cI rqu 100 gqu :: oX4 re (nI sz) rl rf :: aI cI rl 10000 glr :: X) := pm_D hD 6 [1, 0, 2, 3, 4, 5] rfl rfl rfl
  refine lv_iload_n hx hb dX5_spreadFrom_8 rfl (lv_at hl 2 rfl) ?_
  refine lv_icmp_ne (tgt := 13) hx hb dX5_spreadFrom_9 (by decide) (fun c_9 => ?_) (fun c_9 => ?_)
  · refine lv_aload_n hx hb dX5_spreadFrom_13 rfl (lv_at hl 0 rfl) ?_
    refine va_get (D := D) (ci := 5) (v := .ref rog) (C := RX5) (T := TX5) (N := 5) hx hb hts hiX5 hown hK hP 0 rfl rfl 0 (by decide) (hts (.fieldLink RX5 9 "LedgeLeaps$Routes" "origins" "[I") (List.mem_of_getElem? (i := 1) rfl)) (fun _ h9 => h9) rfl dX5_spreadFrom_14 ?_
    refine lv_iload_n hx hb dX5_spreadFrom_17 rfl (lv_at hl 3 rfl) ?_
    refine lv_iload_n hx hb dX5_spreadFrom_18 rfl (lv_at hl 2 rfl) ?_
    refine cSN_v CF hK hN hA hS (cut_of 6 [1, 0, 2, 3, 4, 5] hP hD rfl rfl rfl) (m_store l D cI cZ cW cJ A (oX5 ro rog rsp rqu rta rut :: aI cI rsp 400 gsp :: aI cI rqu 100 gqu :: oX4 re (nI sz) rl rf :: aI cI rl 10000 glr :: X) rog 4 gog (nI ak) (nI ao) (by decide)) ⟨va_cnB 3 hts gX5_spreadFrom_X8_store_n38 rfl rfl rfl (hN (RX5, 38, yX8_store) (List.mem_of_getElem? (i := 15) rfl)) (hts (.initialized RX8) (List.mem_of_getElem? (i := 6) rfl)) (by decide +kernel) ⟨Nat.le_of_ble_eq_true rfl, Nat.le_of_ble_eq_true rfl⟩, (hts (.static yX8_store) (List.mem_of_getElem? (i := 8) rfl)), trivial⟩ (As := [.ref rog, .int (nI ak), .int (nI ao)]) (rest := []) rfl hl.1 rfl (Nat.le_of_ble_eq_true rfl) dX5_spreadFrom_19 ⟨Nat.le_of_ble_eq_true rfl, Nat.le_of_ble_eq_true rfl⟩ (fun u_19 H locs hq hP hD hS => ?_)
    have hq_19 : u_19 = stX 4 gog (nI ak) (nI ao) := hq
    have hP : va_P D vwCl (oX5 ro rog rsp rqu rta rut :: aI cI rog 4 u_19 :: aI cI rsp 400 gsp :: aI cI rqu 100 gqu :: oX4 re (nI sz) rl rf :: aI cI rl 10000 glr :: X) H := pm_P hP 6 [1, 0, 2, 3, 4, 5] rfl
    have hD : va_D A (oX5 ro rog rsp rqu rta rut :: aI cI rog 4 u_19 :: aI cI rsp 400 gsp :: aI cI rqu 100 gqu :: oX4 re (nI sz) rl rf :: aI cI rl 10000 glr :: X) := pm_D hD 6 [1, 0, 2, 3, 4, 5] rfl rfl rfl
    rw [hq_19, st_nI hak (by decide)] at hP hD
    have hP : va_P D vwCl (oX5 ro rog rsp rqu rta rut :: aI cI rog 4 (upd gog ak (nI ao)) :: aI cI rsp 400 gsp :: aI cI rqu 100 gqu :: oX4 re (nI sz) rl rf :: aI cI rl 10000 glr :: X) H := hP
    have hD : va_D A (oX5 ro rog rsp rqu rta rut :: aI cI rog 4 (upd gog ak (nI ao)) :: aI cI rsp 400 gsp :: aI cI rqu 100 gqu :: oX4 re (nI sz) rl rf :: aI cI rl 10000 glr :: X) := hD
    refine lv_aload_n hx hb dX5_spreadFrom_22 rfl (lv_at hl 0 rfl) ?_
    refine lv_iload_n hx hb dX5_spreadFrom_23 rfl (lv_at hl 2 rfl) ?_
    refine lv_iload_n hx hb dX5_spreadFrom_24 rfl (lv_at hl 3 rfl) ?_
    refine cV_v CF hK hN hA hS (cut_of 6 [0, 2, 3, 1, 4, 5] hP hD rfl rfl rfl) (m_beginSpread l D cI cZ cW cJ A (aI cI rog 4 (upd gog ak (nI ao)) :: oX4 re (nI sz) rl rf :: aI cI rl 10000 glr :: X) ro rog rsp rqu rta rut gsp gqu ao ak (by omega) hak) (cwV 2 hts gX5_spreadFrom_X5_beginSpread rfl rfl rfl (by decide +kernel) ⟨Nat.le_of_ble_eq_true rfl, Nat.le_of_ble_eq_true rfl⟩) (As := [.int (nI ao), .int (nI ak)]) (rest := []) (ci := 5) (q0 := 0) rfl rfl rfl hl.1 rfl (Nat.le_of_ble_eq_true rfl) dX5_spreadFrom_25 ⟨Nat.le_of_ble_eq_true rfl, Nat.le_of_ble_eq_true rfl⟩ (fun _ H locs hq hP hD hS => ?_)
    have hP : va_P D vwCl (oX5 ro rog rsp rqu rta rut :: aI cI rog 4 (upd gog ak (nI ao)) :: aI cI rsp 400 (upd (spF gsp ak 100) (100 * ak + ao) 0) :: aI cI rqu 100 (upd gqu 0 (nI ao)) :: oX4 re (nI sz) rl rf :: aI cI rl 10000 glr :: X) H := pm_P hP 6 [0, 3, 1, 2, 4, 5] rfl
    have hD : va_D A (oX5 ro rog rsp rqu rta rut :: aI cI rog 4 (upd gog ak (nI ao)) :: aI cI rsp 400 (upd (spF gsp ak 100) (100 * ak + ao) 0) :: aI cI rqu 100 (upd gqu 0 (nI ao)) :: oX4 re (nI sz) rl rf :: aI cI rl 10000 glr :: X) := pm_D hD 6 [0, 3, 1, 2, 4, 5] rfl rfl rfl
    refine lv_iload_n hx hb dX5_spreadFrom_28 rfl (lv_at hl 3 rfl) ?_
    refine lv_bipush (v := 100) hx hb dX5_spreadFrom_29 (by decide) ?_
    refine lv_imul hx hb dX5_spreadFrom_31 ?_
    refine top_i (y := (nI (100 * ak))) (nI_100 ak) ?_
    refine lv_istore (lv' := [(4, .int (nI (100 * ak))), (0, .ref ro), (1, .ref re), (2, .int (nI ao)), (3, .int (nI ak))]) hx hb dX5_spreadFrom_32 hl (by decide) rfl (fun ls hl => ?_)
    refine lv_iconst (v := 1) hx hb dX5_spreadFrom_34 (by decide) ?_
    refine lv_istore (lv' := [(5, .int 1), (4, .int (nI (100 * ak))), (0, .ref ro), (1, .ref re), (2, .int (nI ao)), (3, .int (nI ak))]) hx hb dX5_spreadFrom_35 hl (by decide) rfl (fun ls hl => ?_)
    refine lv_iconst (v := 0) hx hb dX5_spreadFrom_37 (by decide) ?_
    refine lv_istore (lv' := [(6, .int 0), (5, .int 1), (4, .int (nI (100 * ak))), (0, .ref ro), (1, .ref re), (2, .int (nI ao)), (3, .int (nI ak))]) hx hb dX5_spreadFrom_38 hl (by decide) rfl (fun ls hl => ?_)
    have loop_40 : ∀ (nfu : Nat) (i qn : Nat) (sp q : Nat → Int32) (qq dd : Nat → Nat) (hn_40 : 101 - i < nfu) (hi1 : i ≤ 100) (hq1 : qn ≤ 100) (hB : BI (Rk glr ak) sz ao (fun b => sp (100 * ak + b)) q qn i 0 qq dd) (ho : ∀ j, (j < 100 * ak ∨ 100 * ak + 100 ≤ j) → sp j = gsp j) (H : Heap) (locs : List Loc) (hP : va_P D vwCl (oX5 ro rog rsp rqu rta rut :: aI cI rog 4 (upd gog ak (nI ao)) :: aI cI rsp 400 sp :: aI cI rqu 100 q :: oX4 re (nI sz) rl rf :: aI cI rl 10000 glr :: X) H) (hD : va_D A (oX5 ro rog rsp rqu rta rut :: aI cI rog 4 (upd gog ak (nI ao)) :: aI cI rsp 400 sp :: aI cI rqu 100 q :: oX4 re (nI sz) rl rf :: aI cI rl 10000 glr :: X)) (hS : va_S A s.heap H locs) (ls : Array Slot) (hl : lv_has ls 10 [(6, .int (nI i)), (5, .int (nI qn)), (4, .int (nI (100 * ak))), (0, .ref ro), (1, .ref re), (2, .int (nI ao)), (3, .int (nI ak))]), W p l e ({ frames := 3, cells := 0, slots := 0, locals := 67 } : Room) s m (([.ref ro, .ref re, .int (nI ao), .int (nI ak)] : List Value).toArray) below meth c H locs 0 0 (MQ below (va_Qv (fun (u : (Nat → Int32) × (Nat → Int32) × (Nat → Int32)) => RtOK glr sz u.1 u.2.1 ∧ u.1 ak = nI ao ∧ ∀ k, k ≠ ak → u.1 k = gog k) (fun (u : (Nat → Int32) × (Nat → Int32) × (Nat → Int32)) t => wq D A (oX5 ro rog rsp rqu rta rut :: aI cI rog 4 u.1 :: aI cI rsp 400 u.2.1 :: aI cI rqu 100 u.2.2 :: oX4 re (nI sz) rl rf :: aI cI rl 10000 glr :: X) t) A) (([.ref ro, .ref re, .int (nI ao), .int (nI ak)] : List Value).toArray) s 0 0 A) (F0 m 40 ls []) := by
      intro nfu
      induction nfu with
      | zero => intro i qn sp q qq dd hn_40; exact absurd hn_40 (Nat.not_lt_zero _)
      | succ nfu ih_40 =>
        intro i qn sp q qq dd hn_40 hi1 hq1 hB ho H locs hP hD hS ls hl
        refine lv_iload hx hb dX5_spreadFrom_40 (lv_at hl 0 rfl) ?_
        refine lv_iload hx hb dX5_spreadFrom_42 (lv_at hl 1 rfl) ?_
        refine lv_icmp_ge (tgt := 161) hx hb dX5_spreadFrom_44 (by decide) (fun c_44 => ?_) (fun c_44 => ?_)
        · exact W.vret hx hb hr (fun t9 ht9 hW9 => ⟨⟨((upd gog ak (nI ao)), sp, q), rfl, sp_done hak hao hrt ho hsz hB (Or.inl (le_of_ge (a := qn) (b := i) (by omega) (by omega) c_44)), by rw [ht9]; exact hP, hD⟩, hS.F ht9⟩) hS.2.2 dX5_spreadFrom_161
        · refine lv_iload hx hb dX5_spreadFrom_47 (lv_at hl 0 rfl) ?_
          refine lv_bipush (v := 100) hx hb dX5_spreadFrom_49 (by decide) ?_
          refine lv_icmp_ge (tgt := 161) hx hb dX5_spreadFrom_51 (by decide) (fun c_51 => ?_) (fun c_51 => ?_)
          · exact W.vret hx hb hr (fun t9 ht9 hW9 => ⟨⟨((upd gog ak (nI ao)), sp, q), rfl, sp_done hak hao hrt ho hsz hB (Or.inr (le_of_ge (a := 100) (b := i) (by decide) (by omega) c_51)), by rw [ht9]; exact hP, hD⟩, hS.F ht9⟩) hS.2.2 dX5_spreadFrom_161
          · have hi : i < qn := lt_of_nge (a := qn) (b := i) (by omega) (by omega) c_44
            obtain ⟨a1, a2, a3, a4, a5⟩ := hB.1 i hi
            have hqn9 := hB.2.2.2.2.2.2.2.2
            obtain ⟨v0, hv0⟩ : ∃ v0, qq i = v0 := ⟨_, rfl⟩
            obtain ⟨d0, hd0⟩ : ∃ d0, dd (qq i) = d0 := ⟨_, rfl⟩
            have hv9 : v0 < sz := hv0 ▸ a2
            refine lv_aload_n hx hb dX5_spreadFrom_54 rfl (lv_at hl 3 rfl) ?_
            refine va_get (D := D) (ci := 5) (v := .ref rqu) (C := RX5) (T := TX5) (N := 5) hx hb hts hiX5 hown hK hP 0 rfl rfl 2 (by decide) (hts (.fieldLink RX5 18 "LedgeLeaps$Routes" "queue" "[I") (List.mem_of_getElem? (i := 2) rfl)) (fun _ h9 => h9) rfl dX5_spreadFrom_55 ?_
            refine lv_iload hx hb dX5_spreadFrom_58 (lv_at hl 0 rfl) ?_
            refine cSN_i CF hK hN hA hS (cut_of 6 [3, 0, 1, 2, 4, 5] hP hD rfl rfl rfl) (m_at l D cI cZ cW cJ A (oX5 ro rog rsp rqu rta rut :: aI cI rog 4 (upd gog ak (nI ao)) :: aI cI rsp 400 sp :: oX4 re (nI sz) rl rf :: aI cI rl 10000 glr :: X) rqu 100 q (nI i) (by decide)) ⟨va_cnB 2 hts gX5_spreadFrom_X8_at_n34 rfl rfl rfl (hN (RX5, 34, yX8_at) (List.mem_of_getElem? (i := 14) rfl)) (hts (.initialized RX8) (List.mem_of_getElem? (i := 6) rfl)) (by decide +kernel) ⟨Nat.le_of_ble_eq_true rfl, Nat.le_of_ble_eq_true rfl⟩, (hts (.static yX8_at) (List.mem_of_getElem? (i := 5) rfl)), trivial⟩ (As := [.ref rqu, .int (nI i)]) (rest := []) rfl hl.1 rfl (Nat.le_of_ble_eq_true rfl) dX5_spreadFrom_60 ⟨Nat.le_of_ble_eq_true rfl, Nat.le_of_ble_eq_true rfl⟩ (fun r_60 _ H locs hq hP hD hS => ?_)
            have hq : r_60 = atX 100 q (nI i) := hq
            subst hq
            have hP : va_P D vwCl (oX5 ro rog rsp rqu rta rut :: aI cI rog 4 (upd gog ak (nI ao)) :: aI cI rsp 400 sp :: aI cI rqu 100 q :: oX4 re (nI sz) rl rf :: aI cI rl 10000 glr :: X) H := pm_P hP 6 [1, 2, 3, 0, 4, 5] rfl
            have hD : va_D A (oX5 ro rog rsp rqu rta rut :: aI cI rog 4 (upd gog ak (nI ao)) :: aI cI rsp 400 sp :: aI cI rqu 100 q :: oX4 re (nI sz) rl rf :: aI cI rl 10000 glr :: X) := pm_D hD 6 [1, 2, 3, 0, 4, 5] rfl rfl rfl
            refine top_i (y := (nI v0)) (by rw [at_nI (by omega) (by decide), a1, hv0]) ?_
            refine lv_istore (lv' := [(7, .int (nI v0)), (6, .int (nI i)), (5, .int (nI qn)), (4, .int (nI (100 * ak))), (0, .ref ro), (1, .ref re), (2, .int (nI ao)), (3, .int (nI ak))]) hx hb dX5_spreadFrom_63 hl (by decide) rfl (fun ls hl => ?_)
            refine lv_aload_n hx hb dX5_spreadFrom_65 rfl (lv_at hl 4 rfl) ?_
            refine va_get (D := D) (ci := 5) (v := .ref rsp) (C := RX5) (T := TX5) (N := 5) hx hb hts hiX5 hown hK hP 0 rfl rfl 1 (by decide) (hts (.fieldLink RX5 15 "LedgeLeaps$Routes" "spread" "[I") (List.mem_of_getElem? (i := 3) rfl)) (fun _ h9 => h9) rfl dX5_spreadFrom_66 ?_
            refine lv_iload hx hb dX5_spreadFrom_69 (lv_at hl 3 rfl) ?_
            refine lv_iload hx hb dX5_spreadFrom_71 (lv_at hl 0 rfl) ?_
            refine lv_iadd hx hb dX5_spreadFrom_73 ?_
            refine top_i (y := (nI (100 * ak + v0))) (nI_add _ _) ?_
            refine cSN_i CF hK hN hA hS (cut_of 6 [2, 0, 1, 3, 4, 5] hP hD rfl rfl rfl) (m_at l D cI cZ cW cJ A (oX5 ro rog rsp rqu rta rut :: aI cI rog 4 (upd gog ak (nI ao)) :: aI cI rqu 100 q :: oX4 re (nI sz) rl rf :: aI cI rl 10000 glr :: X) rsp 400 sp (nI (100 * ak + v0)) (by decide)) ⟨va_cnB 2 hts gX5_spreadFrom_X8_at_n34 rfl rfl rfl (hN (RX5, 34, yX8_at) (List.mem_of_getElem? (i := 14) rfl)) (hts (.initialized RX8) (List.mem_of_getElem? (i := 6) rfl)) (by decide +kernel) ⟨Nat.le_of_ble_eq_true rfl, Nat.le_of_ble_eq_true rfl⟩, (hts (.static yX8_at) (List.mem_of_getElem? (i := 5) rfl)), trivial⟩ (As := [.ref rsp, .int (nI (100 * ak + v0))]) (rest := []) rfl hl.1 rfl (Nat.le_of_ble_eq_true rfl) dX5_spreadFrom_74 ⟨Nat.le_of_ble_eq_true rfl, Nat.le_of_ble_eq_true rfl⟩ (fun r_74 _ H locs hq hP hD hS => ?_)
            have hq : r_74 = atX 400 sp (nI (100 * ak + v0)) := hq
            subst hq
            have hP : va_P D vwCl (oX5 ro rog rsp rqu rta rut :: aI cI rog 4 (upd gog ak (nI ao)) :: aI cI rsp 400 sp :: aI cI rqu 100 q :: oX4 re (nI sz) rl rf :: aI cI rl 10000 glr :: X) H := pm_P hP 6 [1, 2, 0, 3, 4, 5] rfl
            have hD : va_D A (oX5 ro rog rsp rqu rta rut :: aI cI rog 4 (upd gog ak (nI ao)) :: aI cI rsp 400 sp :: aI cI rqu 100 q :: oX4 re (nI sz) rl rf :: aI cI rl 10000 glr :: X) := pm_D hD 6 [1, 2, 0, 3, 4, 5] rfl rfl rfl
            refine top_i (y := (nI d0)) (by rw [at_nI (by omega) (by decide)]; rw [hv0] at a3 hd0; rw [← hd0]; exact a3) ?_
            refine lv_iconst (v := 1) hx hb dX5_spreadFrom_77 (by decide) ?_
            refine lv_iadd hx hb dX5_spreadFrom_78 ?_
            refine top_i (y := (nI (d0 + 1))) (nI_1 d0) ?_
            refine lv_istore (lv' := [(8, .int (nI (d0 + 1))), (7, .int (nI v0)), (6, .int (nI i)), (5, .int (nI qn)), (4, .int (nI (100 * ak))), (0, .ref ro), (1, .ref re), (2, .int (nI ao)), (3, .int (nI ak))]) hx hb dX5_spreadFrom_79 hl (by decide) rfl (fun ls hl => ?_)
            refine lv_iconst (v := 0) hx hb dX5_spreadFrom_81 (by decide) ?_
            refine lv_istore (lv' := [(9, .int 0), (8, .int (nI (d0 + 1))), (7, .int (nI v0)), (6, .int (nI i)), (5, .int (nI qn)), (4, .int (nI (100 * ak))), (0, .ref ro), (1, .ref re), (2, .int (nI ao)), (3, .int (nI ak))]) hx hb dX5_spreadFrom_82 hl (by decide) rfl (fun ls hl => ?_)
            have loop_84 : ∀ (nfu : Nat) (x qn2 : Nat) (sp2 q2 : Nat → Int32) (qq2 dd2 : Nat → Nat) (hn_84 : sz - x < nfu) (hxs : x ≤ sz) (hB2 : BI (Rk glr ak) sz ao (fun b => sp2 (100 * ak + b)) q2 qn2 i x qq2 dd2) (ho2 : ∀ j, (j < 100 * ak ∨ 100 * ak + 100 ≤ j) → sp2 j = gsp j) (he1 : qq2 i = v0) (he2 : dd2 (qq2 i) = d0) (hi2 : i < qn2) (H : Heap) (locs : List Loc) (hP : va_P D vwCl (oX5 ro rog rsp rqu rta rut :: aI cI rog 4 (upd gog ak (nI ao)) :: aI cI rsp 400 sp2 :: aI cI rqu 100 q2 :: oX4 re (nI sz) rl rf :: aI cI rl 10000 glr :: X) H) (hD : va_D A (oX5 ro rog rsp rqu rta rut :: aI cI rog 4 (upd gog ak (nI ao)) :: aI cI rsp 400 sp2 :: aI cI rqu 100 q2 :: oX4 re (nI sz) rl rf :: aI cI rl 10000 glr :: X)) (hS : va_S A s.heap H locs) (ls : Array Slot) (hl : lv_has ls 10 [(9, .int (nI x)), (8, .int (nI (d0 + 1))), (7, .int (nI v0)), (6, .int (nI i)), (5, .int (nI qn2)), (4, .int (nI (100 * ak))), (0, .ref ro), (1, .ref re), (2, .int (nI ao)), (3, .int (nI ak))]), W p l e ({ frames := 3, cells := 0, slots := 0, locals := 67 } : Room) s m (([.ref ro, .ref re, .int (nI ao), .int (nI ak)] : List Value).toArray) below meth c H locs 0 0 (MQ below (va_Qv (fun (u : (Nat → Int32) × (Nat → Int32) × (Nat → Int32)) => RtOK glr sz u.1 u.2.1 ∧ u.1 ak = nI ao ∧ ∀ k, k ≠ ak → u.1 k = gog k) (fun (u : (Nat → Int32) × (Nat → Int32) × (Nat → Int32)) t => wq D A (oX5 ro rog rsp rqu rta rut :: aI cI rog 4 u.1 :: aI cI rsp 400 u.2.1 :: aI cI rqu 100 u.2.2 :: oX4 re (nI sz) rl rf :: aI cI rl 10000 glr :: X) t) A) (([.ref ro, .ref re, .int (nI ao), .int (nI ak)] : List Value).toArray) s 0 0 A) (F0 m 84 ls []) := by
              intro nfu
              induction nfu with
              | zero => intro x qn2 sp2 q2 qq2 dd2 hn_84; exact absurd hn_84 (Nat.not_lt_zero _)
              | succ nfu ih_84 =>
                intro x qn2 sp2 q2 qq2 dd2 hn_84 hxs hB2 ho2 he1 he2 hi2 H locs hP hD hS ls hl
                refine lv_iload hx hb dX5_spreadFrom_84 (lv_at hl 0 rfl) ?_
                refine lv_aload_n hx hb dX5_spreadFrom_86 rfl (lv_at hl 7 rfl) ?_
                refine va_get (D := D) (ci := 4) (v := .int (nI sz)) (C := RX4) (T := TX4) (N := 3) hx hb hts hiX4 hown hK hP 4 rfl rfl 0 (by decide) (hts (.fieldLink RX5 46 "LedgeLeaps$Reaches" "size" "I") (List.mem_of_getElem? (i := 4) rfl)) (fun _ h9 => h9) rfl dX5_spreadFrom_87 ?_
                refine lv_icmp_ge (tgt := 155) hx hb dX5_spreadFrom_90 (by decide) (fun c_90 => ?_) (fun c_90 => ?_)
                · refine lv_iinc (v := (nI (i + 1))) (lv' := [(6, .int (nI (i + 1))), (9, .int (nI x)), (8, .int (nI (d0 + 1))), (7, .int (nI v0)), (5, .int (nI qn2)), (4, .int (nI (100 * ak))), (0, .ref ro), (1, .ref re), (2, .int (nI ao)), (3, .int (nI ak))]) hx hb dX5_spreadFrom_155 hl (k := 3) rfl (nI_1 i) (by decide) rfl (fun ls hl => ?_)
                  refine lv_goto (tgt := 40) hx hb dX5_spreadFrom_158 (by decide) ?_
                  exact ih_40 (i + 1) qn2 sp2 q2 qq2 dd2 (by omega) (by omega) (hB2.2.2.2.2.2.2.2.2) (hB2.next hi2 (le_of_ge (a := sz) (b := x) (by omega) (by omega) c_90)) (ho2) _ _ (hP) (hD) hS _ (lv_sub hl [0, 4, 5, 6, 7, 8, 9] rfl)
                · have hx2 : x < sz := lt_of_nge (a := sz) (b := x) (by omega) (by omega) c_90
                  refine lv_aload_n hx hb dX5_spreadFrom_93 rfl (lv_at hl 6 rfl) ?_
                  refine va_get (D := D) (ci := 5) (v := .ref rsp) (C := RX5) (T := TX5) (N := 5) hx hb hts hiX5 hown hK hP 0 rfl rfl 1 (by decide) (hts (.fieldLink RX5 15 "LedgeLeaps$Routes" "spread" "[I") (List.mem_of_getElem? (i := 3) rfl)) (fun _ h9 => h9) rfl dX5_spreadFrom_94 ?_
                  refine lv_iload hx hb dX5_spreadFrom_97 (lv_at hl 5 rfl) ?_
                  refine lv_iload hx hb dX5_spreadFrom_99 (lv_at hl 0 rfl) ?_
                  refine lv_iadd hx hb dX5_spreadFrom_101 ?_
                  refine top_i (y := (nI (100 * ak + x))) (nI_add _ _) ?_
                  refine cSN_i CF hK hN hA hS (cut_of 6 [2, 0, 1, 3, 4, 5] hP hD rfl rfl rfl) (m_at l D cI cZ cW cJ A (oX5 ro rog rsp rqu rta rut :: aI cI rog 4 (upd gog ak (nI ao)) :: aI cI rqu 100 q2 :: oX4 re (nI sz) rl rf :: aI cI rl 10000 glr :: X) rsp 400 sp2 (nI (100 * ak + x)) (by decide)) ⟨va_cnB 2 hts gX5_spreadFrom_X8_at_n34 rfl rfl rfl (hN (RX5, 34, yX8_at) (List.mem_of_getElem? (i := 14) rfl)) (hts (.initialized RX8) (List.mem_of_getElem? (i := 6) rfl)) (by decide +kernel) ⟨Nat.le_of_ble_eq_true rfl, Nat.le_of_ble_eq_true rfl⟩, (hts (.static yX8_at) (List.mem_of_getElem? (i := 5) rfl)), trivial⟩ (As := [.ref rsp, .int (nI (100 * ak + x))]) (rest := []) rfl hl.1 rfl (Nat.le_of_ble_eq_true rfl) dX5_spreadFrom_102 ⟨Nat.le_of_ble_eq_true rfl, Nat.le_of_ble_eq_true rfl⟩ (fun r_102 _ H locs hq hP hD hS => ?_)
                  have hq : r_102 = atX 400 sp2 (nI (100 * ak + x)) := hq
                  subst hq
                  have hP : va_P D vwCl (oX5 ro rog rsp rqu rta rut :: aI cI rog 4 (upd gog ak (nI ao)) :: aI cI rsp 400 sp2 :: aI cI rqu 100 q2 :: oX4 re (nI sz) rl rf :: aI cI rl 10000 glr :: X) H := pm_P hP 6 [1, 2, 0, 3, 4, 5] rfl
                  have hD : va_D A (oX5 ro rog rsp rqu rta rut :: aI cI rog 4 (upd gog ak (nI ao)) :: aI cI rsp 400 sp2 :: aI cI rqu 100 q2 :: oX4 re (nI sz) rl rf :: aI cI rl 10000 glr :: X) := pm_D hD 6 [1, 2, 0, 3, 4, 5] rfl rfl rfl
                  refine top_i (y := (sp2 (100 * ak + x))) (at_nI (by omega) (by decide)) ?_
                  refine lv_iconst (v := (-1)) hx hb dX5_spreadFrom_105 (by decide) ?_
                  refine lv_icmp_ne (tgt := 149) hx hb dX5_spreadFrom_106 (by decide) (fun c_106 => ?_) (fun c_106 => ?_)
                  · refine lv_iinc (v := (nI (x + 1))) (lv' := [(9, .int (nI (x + 1))), (8, .int (nI (d0 + 1))), (7, .int (nI v0)), (6, .int (nI i)), (5, .int (nI qn2)), (4, .int (nI (100 * ak))), (0, .ref ro), (1, .ref re), (2, .int (nI ao)), (3, .int (nI ak))]) hx hb dX5_spreadFrom_149 hl (k := 0) rfl (nI_1 x) (by decide) rfl (fun ls hl => ?_)
                    refine lv_goto (tgt := 84) hx hb dX5_spreadFrom_152 (by decide) ?_
                    exact ih_84 (x + 1) qn2 sp2 q2 qq2 dd2 (by omega) (by omega) (hB2.skip hx2 hi2 (Or.inl c_106)) (ho2) (he1) (he2) (hi2) _ _ (hP) (hD) hS _ (lv_sub hl [0, 1, 2, 3, 4, 5, 6, 7, 8, 9] rfl)
                  · refine lv_aload_n hx hb dX5_spreadFrom_109 rfl (lv_at hl 7 rfl) ?_
                    refine lv_iload hx hb dX5_spreadFrom_110 (lv_at hl 2 rfl) ?_
                    refine lv_iload hx hb dX5_spreadFrom_112 (lv_at hl 0 rfl) ?_
                    refine lv_iload_n hx hb dX5_spreadFrom_114 rfl (lv_at hl 9 rfl) ?_
                    refine cV_i CF hK hN hA hS (cut_of 6 [4, 5, 0, 1, 2, 3] hP hD rfl rfl rfl) (m_come l D cI cZ cW cJ A (oX5 ro rog rsp rqu rta rut :: aI cI rog 4 (upd gog ak (nI ao)) :: aI cI rsp 400 sp2 :: aI cI rqu 100 q2 :: X) re rl rf (nI sz) glr v0 x (nI ak) (by omega) (by omega)) (cwV 3 hts gX5_spreadFrom_X4_come rfl rfl rfl (by decide +kernel) ⟨Nat.le_of_ble_eq_true rfl, Nat.le_of_ble_eq_true rfl⟩) (As := [.int (nI v0), .int (nI x), .int (nI ak)]) (rest := []) (ci := 4) (q0 := 0) rfl rfl rfl hl.1 rfl (Nat.le_of_ble_eq_true rfl) dX5_spreadFrom_115 ⟨Nat.le_of_ble_eq_true rfl, Nat.le_of_ble_eq_true rfl⟩ (fun r_115 _ H locs hq hP hD hS => ?_)
                    have hq : r_115 = bI (comeF glr v0 x (nI ak)) := hq
                    subst hq
                    have hP : va_P D vwCl (oX5 ro rog rsp rqu rta rut :: aI cI rog 4 (upd gog ak (nI ao)) :: aI cI rsp 400 sp2 :: aI cI rqu 100 q2 :: oX4 re (nI sz) rl rf :: aI cI rl 10000 glr :: X) H := pm_P hP 6 [2, 3, 4, 5, 0, 1] rfl
                    have hD : va_D A (oX5 ro rog rsp rqu rta rut :: aI cI rog 4 (upd gog ak (nI ao)) :: aI cI rsp 400 sp2 :: aI cI rqu 100 q2 :: oX4 re (nI sz) rl rf :: aI cI rl 10000 glr :: X) := pm_D hD 6 [2, 3, 4, 5, 0, 1] rfl rfl rfl
                    refine lv_if_eq (tgt := 149) hx hb dX5_spreadFrom_118 (by decide) (fun c_118 => ?_) (fun c_118 => ?_)
                    · refine lv_iinc (v := (nI (x + 1))) (lv' := [(9, .int (nI (x + 1))), (8, .int (nI (d0 + 1))), (7, .int (nI v0)), (6, .int (nI i)), (5, .int (nI qn2)), (4, .int (nI (100 * ak))), (0, .ref ro), (1, .ref re), (2, .int (nI ao)), (3, .int (nI ak))]) hx hb dX5_spreadFrom_149 hl (k := 0) rfl (nI_1 x) (by decide) rfl (fun ls hl => ?_)
                      refine lv_goto (tgt := 84) hx hb dX5_spreadFrom_152 (by decide) ?_
                      exact ih_84 (x + 1) qn2 sp2 q2 qq2 dd2 (by omega) (by omega) (hB2.skip hx2 hi2 (Or.inr (by rw [he1]; exact bf_c c_118))) (ho2) (he1) (he2) (hi2) _ _ (hP) (hD) hS _ (lv_sub hl [0, 1, 2, 3, 4, 5, 6, 7, 8, 9] rfl)
                    · have hr9 := hB2.room hsz hx2 c_106
                      have hnx : ¬ qq2 i = x := fun e => by have h9 := (hB2.1 i hi2).2.2.1; rw [e] at h9; exact nI_ne_m1 (by have := (hB2.1 i hi2).2.2.2.1; rw [e] at this; omega) (h9.symm.trans c_106)
                      refine lv_aload_n hx hb dX5_spreadFrom_121 rfl (lv_at hl 6 rfl) ?_
                      refine va_get (D := D) (ci := 5) (v := .ref rsp) (C := RX5) (T := TX5) (N := 5) hx hb hts hiX5 hown hK hP 0 rfl rfl 1 (by decide) (hts (.fieldLink RX5 15 "LedgeLeaps$Routes" "spread" "[I") (List.mem_of_getElem? (i := 3) rfl)) (fun _ h9 => h9) rfl dX5_spreadFrom_122 ?_
                      refine lv_iload hx hb dX5_spreadFrom_125 (lv_at hl 5 rfl) ?_
                      refine lv_iload hx hb dX5_spreadFrom_127 (lv_at hl 0 rfl) ?_
                      refine lv_iadd hx hb dX5_spreadFrom_129 ?_
                      refine top_i (y := (nI (100 * ak + x))) (nI_add _ _) ?_
                      refine lv_iload hx hb dX5_spreadFrom_130 (lv_at hl 1 rfl) ?_
                      refine cSN_v CF hK hN hA hS (cut_of 6 [2, 0, 1, 3, 4, 5] hP hD rfl rfl rfl) (m_store l D cI cZ cW cJ A (oX5 ro rog rsp rqu rta rut :: aI cI rog 4 (upd gog ak (nI ao)) :: aI cI rqu 100 q2 :: oX4 re (nI sz) rl rf :: aI cI rl 10000 glr :: X) rsp 400 sp2 (nI (100 * ak + x)) (nI (d0 + 1)) (by decide)) ⟨va_cnB 3 hts gX5_spreadFrom_X8_store_n38 rfl rfl rfl (hN (RX5, 38, yX8_store) (List.mem_of_getElem? (i := 15) rfl)) (hts (.initialized RX8) (List.mem_of_getElem? (i := 6) rfl)) (by decide +kernel) ⟨Nat.le_of_ble_eq_true rfl, Nat.le_of_ble_eq_true rfl⟩, (hts (.static yX8_store) (List.mem_of_getElem? (i := 8) rfl)), trivial⟩ (As := [.ref rsp, .int (nI (100 * ak + x)), .int (nI (d0 + 1))]) (rest := []) rfl hl.1 rfl (Nat.le_of_ble_eq_true rfl) dX5_spreadFrom_132 ⟨Nat.le_of_ble_eq_true rfl, Nat.le_of_ble_eq_true rfl⟩ (fun u_132 H locs hq hP hD hS => ?_)
                      have hq_132 : u_132 = stX 400 sp2 (nI (100 * ak + x)) (nI (d0 + 1)) := hq
                      have hP : va_P D vwCl (oX5 ro rog rsp rqu rta rut :: aI cI rog 4 (upd gog ak (nI ao)) :: aI cI rsp 400 u_132 :: aI cI rqu 100 q2 :: oX4 re (nI sz) rl rf :: aI cI rl 10000 glr :: X) H := pm_P hP 6 [1, 2, 0, 3, 4, 5] rfl
                      have hD : va_D A (oX5 ro rog rsp rqu rta rut :: aI cI rog 4 (upd gog ak (nI ao)) :: aI cI rsp 400 u_132 :: aI cI rqu 100 q2 :: oX4 re (nI sz) rl rf :: aI cI rl 10000 glr :: X) := pm_D hD 6 [1, 2, 0, 3, 4, 5] rfl rfl rfl
                      rw [hq_132, st_nI (by omega) (by decide)] at hP hD
                      have hP : va_P D vwCl (oX5 ro rog rsp rqu rta rut :: aI cI rog 4 (upd gog ak (nI ao)) :: aI cI rsp 400 (upd sp2 (100 * ak + x) (nI (d0 + 1))) :: aI cI rqu 100 q2 :: oX4 re (nI sz) rl rf :: aI cI rl 10000 glr :: X) H := hP
                      have hD : va_D A (oX5 ro rog rsp rqu rta rut :: aI cI rog 4 (upd gog ak (nI ao)) :: aI cI rsp 400 (upd sp2 (100 * ak + x) (nI (d0 + 1))) :: aI cI rqu 100 q2 :: oX4 re (nI sz) rl rf :: aI cI rl 10000 glr :: X) := hD
                      refine lv_aload_n hx hb dX5_spreadFrom_135 rfl (lv_at hl 6 rfl) ?_
                      refine va_get (D := D) (ci := 5) (v := .ref rqu) (C := RX5) (T := TX5) (N := 5) hx hb hts hiX5 hown hK hP 0 rfl rfl 2 (by decide) (hts (.fieldLink RX5 18 "LedgeLeaps$Routes" "queue" "[I") (List.mem_of_getElem? (i := 2) rfl)) (fun _ h9 => h9) rfl dX5_spreadFrom_136 ?_
                      refine lv_iload hx hb dX5_spreadFrom_139 (lv_at hl 4 rfl) ?_
                      refine lv_iload hx hb dX5_spreadFrom_141 (lv_at hl 0 rfl) ?_
                      refine cSN_v CF hK hN hA hS (cut_of 6 [3, 0, 1, 2, 4, 5] hP hD rfl rfl rfl) (m_store l D cI cZ cW cJ A (oX5 ro rog rsp rqu rta rut :: aI cI rog 4 (upd gog ak (nI ao)) :: aI cI rsp 400 (upd sp2 (100 * ak + x) (nI (d0 + 1))) :: oX4 re (nI sz) rl rf :: aI cI rl 10000 glr :: X) rqu 100 q2 (nI qn2) (nI x) (by decide)) ⟨va_cnB 3 hts gX5_spreadFrom_X8_store_n38 rfl rfl rfl (hN (RX5, 38, yX8_store) (List.mem_of_getElem? (i := 15) rfl)) (hts (.initialized RX8) (List.mem_of_getElem? (i := 6) rfl)) (by decide +kernel) ⟨Nat.le_of_ble_eq_true rfl, Nat.le_of_ble_eq_true rfl⟩, (hts (.static yX8_store) (List.mem_of_getElem? (i := 8) rfl)), trivial⟩ (As := [.ref rqu, .int (nI qn2), .int (nI x)]) (rest := []) rfl hl.1 rfl (Nat.le_of_ble_eq_true rfl) dX5_spreadFrom_143 ⟨Nat.le_of_ble_eq_true rfl, Nat.le_of_ble_eq_true rfl⟩ (fun u_143 H locs hq hP hD hS => ?_)
                      have hq_143 : u_143 = stX 100 q2 (nI qn2) (nI x) := hq
                      have hP : va_P D vwCl (oX5 ro rog rsp rqu rta rut :: aI cI rog 4 (upd gog ak (nI ao)) :: aI cI rsp 400 (upd sp2 (100 * ak + x) (nI (d0 + 1))) :: aI cI rqu 100 u_143 :: oX4 re (nI sz) rl rf :: aI cI rl 10000 glr :: X) H := pm_P hP 6 [1, 2, 3, 0, 4, 5] rfl
                      have hD : va_D A (oX5 ro rog rsp rqu rta rut :: aI cI rog 4 (upd gog ak (nI ao)) :: aI cI rsp 400 (upd sp2 (100 * ak + x) (nI (d0 + 1))) :: aI cI rqu 100 u_143 :: oX4 re (nI sz) rl rf :: aI cI rl 10000 glr :: X) := pm_D hD 6 [1, 2, 3, 0, 4, 5] rfl rfl rfl
                      rw [hq_143, st_nI hr9 (by decide)] at hP hD
                      have hP : va_P D vwCl (oX5 ro rog rsp rqu rta rut :: aI cI rog 4 (upd gog ak (nI ao)) :: aI cI rsp 400 (upd sp2 (100 * ak + x) (nI (d0 + 1))) :: aI cI rqu 100 (upd q2 qn2 (nI x)) :: oX4 re (nI sz) rl rf :: aI cI rl 10000 glr :: X) H := hP
                      have hD : va_D A (oX5 ro rog rsp rqu rta rut :: aI cI rog 4 (upd gog ak (nI ao)) :: aI cI rsp 400 (upd sp2 (100 * ak + x) (nI (d0 + 1))) :: aI cI rqu 100 (upd q2 qn2 (nI x)) :: oX4 re (nI sz) rl rf :: aI cI rl 10000 glr :: X) := hD
                      refine lv_iinc (v := (nI (qn2 + 1))) (lv' := [(5, .int (nI (qn2 + 1))), (9, .int (nI x)), (8, .int (nI (d0 + 1))), (7, .int (nI v0)), (6, .int (nI i)), (4, .int (nI (100 * ak))), (0, .ref ro), (1, .ref re), (2, .int (nI ao)), (3, .int (nI ak))]) hx hb dX5_spreadFrom_146 hl (k := 4) rfl (nI_1 qn2) (by decide) rfl (fun ls hl => ?_)
                      refine lv_iinc (v := (nI (x + 1))) (lv' := [(9, .int (nI (x + 1))), (5, .int (nI (qn2 + 1))), (8, .int (nI (d0 + 1))), (7, .int (nI v0)), (6, .int (nI i)), (4, .int (nI (100 * ak))), (0, .ref ro), (1, .ref re), (2, .int (nI ao)), (3, .int (nI ak))]) hx hb dX5_spreadFrom_149 hl (k := 1) rfl (nI_1 x) (by decide) rfl (fun ls hl => ?_)
                      refine lv_goto (tgt := 84) hx hb dX5_spreadFrom_152 (by decide) ?_
                      exact ih_84 (x + 1) (qn2 + 1) (upd sp2 (100 * ak + x) (nI (d0 + 1))) (upd q2 qn2 (nI x)) (fun j => if j = qn2 then x else qq2 j) (fun v => if v = x then dd2 (qq2 i) + 1 else dd2 v) (by omega) (by omega) (hB2.add hsz hx2 hi2 c_106 (by rw [he1]; exact bt_c c_118) (fun v hv => by rw [he2]; exact at_upd) (fun j hj => rfl)) (fun j hj => by rw [pk_un (by omega)]; exact ho2 j hj) (by show (if i = qn2 then x else qq2 i) = v0; rw [if_neg (by omega)]; exact he1) (by show (if (if i = qn2 then x else qq2 i) = x then dd2 (qq2 i) + 1 else dd2 (if i = qn2 then x else qq2 i)) = d0; rw [if_neg (show ¬ i = qn2 by omega), if_neg hnx]; exact he2) (by omega) _ _ (hP) (hD) hS _ (lv_sub hl [0, 2, 3, 4, 1, 5, 6, 7, 8, 9] rfl)
            exact loop_84 _ 0 qn sp q qq dd (Nat.lt_succ_self _) (Nat.zero_le _) (hB) (ho) (hv0) (hd0) (hi) _ _ hP hD hS _ (lv_sub hl [0, 1, 2, 3, 4, 5, 6, 7, 8, 9] rfl)
    exact loop_40 _ 0 1 (upd (spF gsp ak 100) (100 * ak + ao) 0) (upd gqu 0 (nI ao)) (fun _ => ao) (fun _ => 0) (Nat.lt_succ_self _) (Nat.zero_le _) (by decide) (sp_init hsz hao) (fun j hj => sp_out (by omega) hj) _ _ hP hD hS _ (lv_sub hl [0, 1, 2, 3, 4, 5, 6] rfl)
  · exact W.vret hx hb hr (fun t9 ht9 hW9 => ⟨⟨(gog, gsp, gqu), rfl, ⟨hrt, (at_nI hak (by decide)).symm.trans c_9, fun _ _ => rfl⟩, by rw [ht9]; exact hP, hD⟩, hS.F ht9⟩) hS.2.2 dX5_spreadFrom_12
