theorem AbsX.ref {S : KS} {bl se : Nat → Int32} {c r l w f : Int32} (h : AbsX S bl se c r l w f) : AbsX (refK S) bl se c r l w (f + 1) := ⟨h.1, h.2.1, h.2.2.1, h.2.2.2.1, h.2.2.2.2.1, by show f + 1 = S.2.2.2.2.2 + 1; rw [h.2.2.2.2.2]⟩
theorem AbsX.at_c {S : KS} {bl se : Nat → Int32} {c r l w f : Int32} (h : AbsX S bl se c r l w f) : c = nI S.2.2.1.1 := h.2.2.1.1
theorem AbsX.at_r {S : KS} {bl se : Nat → Int32} {c r l w f : Int32} (h : AbsX S bl se c r l w f) : r = nI S.2.2.1.2 := h.2.2.1.2
theorem AbsX.build {S : KS} {bl se : Nat → Int32} {c r l w f : Int32} (h : AbsX S bl se c r l w f) (hw : Wf S) {i j : Nat} (hi : i < 20) (hj : j < 10) (hne : ¬ (i = S.2.2.1.1 ∧ j = S.2.2.1.2)) :
    AbsX (buildK S i j).1 (tbX bl (nI i) (nI j)) se c (fallB (blkX (tbX bl (nI i) (nI j))) c 10 r) l w f ∧ blkX (tbX bl (nI i) (nI j)) = Bk (flipL S.1 i j) := by
  have hb := tb_bits h hi hj
  have h1 : AbsX (flipL S.1 i j, S.2) (tbX bl (nI i) (nI j)) se c r l w f := ⟨hb, h.2⟩
  have hB : blkX (tbX bl (nI i) (nI j)) = Bk (flipL S.1 i j) := blk_abs h1
  refine ⟨?_, hB⟩
  unfold buildK
  rw [if_neg hne, hB]
  refine ⟨hb, h.2.1, ⟨h.at_c, ?_⟩, h.2.2.2⟩
  obtain ⟨k, a, b, -⟩ := build_fall hw hi hj hne
  rw [h.at_c, h.at_r, a]
  show nI k = nI (nI k).toNatClampNeg
  rw [nI_clamp (by omega)]
set_option maxHeartbeats 4000000 in
set_option maxRecDepth 100000 in
theorem m_forgetLevel (l : Launch) (D : va_G) (cI cZ cW cJ : ClassId) (A : Nat → Prop) (X : va_W) (xo w hi sn tx f mm re ro : Nat) (mk rk : Bool) : Met l yX8_forgetLevel wsX8_forgetLevel ({ frames := 0, cells := 0, slots := 0, locals := 0 }) (va_Pc [.ref xo] (wd D (tyL cI cZ cW cJ) A (oX8 xo w hi sn tx f mm re ro (bI mk) (bI rk) :: X))) (va_Qv (fun (u : Unit) => True) (fun (u : Unit) t => wq D A (oX8 xo w hi sn tx f mm re ro (bI false) (bI false) :: X) t) A) 0 0 A := by
  refine Met.ofW (cc := cX8_forgetLevel) (maxL := 1) (ret := none) (by decide) rfl ?_
  intro p e s m args below meth c s₁ B hml hv
  obtain ⟨rfl, hsz9, hP, hK, hD, hN⟩ := hv
  have hx := B.exec
  have hb := B.bytes
  have hr := B.returns
  have hts := atoms_spec (ws := wsX8_forgetLevel) B.pre
  have hown : s.vm.findClass RX8 = some m.cls := findClass_of_methodNamed B.named
  have hlocks := B.notSynchronized
  have CF : CallFix p m c cX8_forgetLevel 1 s _ wsX8_forgetLevel RX8 := ⟨hx, hb, hml, hown, hts⟩
  have hA : ∀ q : Nat, s.heap.size ≤ q → A q := hsz9
  have hS : va_S A s.heap s.heap [] := va_S.rf
  have hiX8 : ∀ w ∈ u_ws RX8 TX8 10, w ∈ wsX8_forgetLevel := fun _ h => List.mem_cons_of_mem _ (List.mem_append_right _ (h))
  have hl := lv_entry ([.ref xo]) (n := 1) (Nat.le_of_ble_eq_true rfl)
  rw [lg_entry_eq]
  generalize (lg_sl ([.ref xo]) ++ List.replicate (1 - (lg_sl ([.ref xo])).length) Slot.unset).toArray = ls at hl ⊢
  have hl : lv_has ls 1 [(0, .ref xo)] := hl
  show W p l e ({ frames := 0, cells := 0, slots := 0, locals := 0 } : Room) s m (([.ref xo] : List Value).toArray) below meth c s.heap [] 0 0 (MQ below (va_Qv (fun (u : Unit) => True) (fun (u : Unit) t => wq D A (oX8 xo w hi sn tx f mm re ro (bI false) (bI false) :: X) t) A) (([.ref xo] : List Value).toArray) s 0 0 A) (F0 m 0 ls [])
  refine lv_aload_n hx hb dX8_forgetLevel_0 rfl (lv_at hl 0 rfl) ?_
  refine lv_iconst (v := 0) hx hb dX8_forgetLevel_1 (by decide) ?_
  refine va_put (D := D) (ci := 8) (v := .int 0) (ty := .boolean) (C := RX8) (T := TX8) (N := 10) hx hb hts hiX8 tyX8 tyX8_ok nmX8 hown hK hP hD hS 0 rfl rfl 8 (by decide) (hts (.fieldLink RX8 299 "LedgeLeaps" "mapIsKnown" "Z") (List.mem_of_getElem? (i := 1) rfl)) (fun _ h9 => h9) rfl (by decide +kernel) rfl rfl (Nat.le_of_ble_eq_true rfl) dX8_forgetLevel_2 (fun H locs hP hD hS => ?_)
  have hP : va_P D vwCl (oX8 xo w hi sn tx f mm re ro 0 (bI rk) :: X) H := hP
  have hD : va_D A (oX8 xo w hi sn tx f mm re ro 0 (bI rk) :: X) := hD
  refine lv_aload_n hx hb dX8_forgetLevel_5 rfl (lv_at hl 0 rfl) ?_
  refine lv_iconst (v := 0) hx hb dX8_forgetLevel_6 (by decide) ?_
  refine va_put (D := D) (ci := 8) (v := .int 0) (ty := .boolean) (C := RX8) (T := TX8) (N := 10) hx hb hts hiX8 tyX8 tyX8_ok nmX8 hown hK hP hD hS 0 rfl rfl 9 (by decide) (hts (.fieldLink RX8 303 "LedgeLeaps" "reachesAreKnown" "Z") (List.mem_of_getElem? (i := 2) rfl)) (fun _ h9 => h9) rfl (by decide +kernel) rfl rfl (Nat.le_of_ble_eq_true rfl) dX8_forgetLevel_7 (fun H locs hP hD hS => ?_)
  have hP : va_P D vwCl (oX8 xo w hi sn tx f mm re ro 0 0 :: X) H := hP
  have hD : va_D A (oX8 xo w hi sn tx f mm re ro 0 0 :: X) := hD
  exact W.vret hx hb hr (fun t9 ht9 hW9 => ⟨⟨(), rfl, trivial, by rw [ht9]; exact hP, hD⟩, hS.F ht9⟩) hS.2.2 dX8_forgetLevel_10
set_option maxHeartbeats 4000000 in
set_option maxRecDepth 100000 in
theorem m_buildOrBreak (l : Launch) (D : va_G) (cI cZ cW cJ : ClassId) (A : Nat → Prop) (X : va_W) (xo hi sn tx f mm re ro : Nat) (mk rk : Bool) (w wb ws : Nat) (wc wr wl ww wf : Int32) (wbl wse : Nat → Int32) (S : KS) (ac ar : Nat) (hac : ac < 20) (har : ar < 10) (hS0 : AbsX S wbl wse wc wr wl ww wf) (hWf : Wf S) : Met l yX8_buildOrBreak wsX8_buildOrBreak ({ frames := 3, cells := 0, slots := 0, locals := 65 }) (va_Pc [.ref xo, .int (nI ac), .int (nI ar)] (wd D (tyL cI cZ cW cJ) A (oX8 xo w hi sn tx f mm re ro (bI mk) (bI rk) :: oX7 w wb ws wc wr wl ww wf :: aI cI wb 10 wbl :: aI cI ws 3 wse :: X))) (va_Qi (fun (r : Int32) (u : (Nat → Int32) × Int32 × Int32 × Bool × Bool) => r = (buildK S ac ar).2 ∧ AbsX (buildK S ac ar).1 u.1 wse wc u.2.1 wl ww u.2.2.1 ∧ ((u.2.2.2.1 = mk ∧ u.2.2.2.2 = rk ∧ u.1 = wbl) ∨ (u.2.2.2.1 = false ∧ u.2.2.2.2 = false))) (fun (u : (Nat → Int32) × Int32 × Int32 × Bool × Bool) t => wq D A (oX8 xo w hi sn tx f mm re ro (bI u.2.2.2.1) (bI u.2.2.2.2) :: oX7 w wb ws wc u.2.1 wl ww u.2.2.1 :: aI cI wb 10 u.1 :: aI cI ws 3 wse :: X) t) A) 0 0 A := by
  refine Met.ofW (cc := cX8_buildOrBreak) (maxL := 3) (ret := (some .int)) (by decide) rfl ?_
  intro p e s m args below meth c s₁ B hml hv
  obtain ⟨rfl, hsz9, hP, hK, hD, hN⟩ := hv
  have hx := B.exec
  have hb := B.bytes
  have hr := B.returns
  have hts := atoms_spec (ws := wsX8_buildOrBreak) B.pre
  have hown : s.vm.findClass RX8 = some m.cls := findClass_of_methodNamed B.named
  have hlocks := B.notSynchronized
  have CF : CallFix p m c cX8_buildOrBreak 3 s _ wsX8_buildOrBreak RX8 := ⟨hx, hb, hml, hown, hts⟩
  have hA : ∀ q : Nat, s.heap.size ≤ q → A q := hsz9
  have hS : va_S A s.heap s.heap [] := va_S.rf
  have hiX7 : ∀ w ∈ u_ws RX7 TX7 7, w ∈ wsX8_buildOrBreak := fun _ h => List.mem_cons_of_mem _ (List.mem_append_right _ (h))
  have hiX8 : ∀ w ∈ u_ws RX8 TX8 10, w ∈ wsX8_buildOrBreak := fun _ h => List.mem_cons_of_mem _ (List.mem_append_left _ (List.mem_append_right _ (h)))
  have hl := lv_entry ([.ref xo, .int (nI ac), .int (nI ar)]) (n := 3) (Nat.le_of_ble_eq_true rfl)
  rw [lg_entry_eq]
  generalize (lg_sl ([.ref xo, .int (nI ac), .int (nI ar)]) ++ List.replicate (3 - (lg_sl ([.ref xo, .int (nI ac), .int (nI ar)])).length) Slot.unset).toArray = ls at hl ⊢
  have hl : lv_has ls 3 [(0, .ref xo), (1, .int (nI ac)), (2, .int (nI ar))] := hl
  show W p l e ({ frames := 3, cells := 0, slots := 0, locals := 65 } : Room) s m (([.ref xo, .int (nI ac), .int (nI ar)] : List Value).toArray) below meth c s.heap [] 0 0 (MQ below (va_Qi (fun (r : Int32) (u : (Nat → Int32) × Int32 × Int32 × Bool × Bool) => r = (buildK S ac ar).2 ∧ AbsX (buildK S ac ar).1 u.1 wse wc u.2.1 wl ww u.2.2.1 ∧ ((u.2.2.2.1 = mk ∧ u.2.2.2.2 = rk ∧ u.1 = wbl) ∨ (u.2.2.2.1 = false ∧ u.2.2.2.2 = false))) (fun (u : (Nat → Int32) × Int32 × Int32 × Bool × Bool) t => wq D A (oX8 xo w hi sn tx f mm re ro (bI u.2.2.2.1) (bI u.2.2.2.2) :: oX7 w wb ws wc u.2.1 wl ww u.2.2.1 :: aI cI wb 10 u.1 :: aI cI ws 3 wse :: X) t) A) (([.ref xo, .int (nI ac), .int (nI ar)] : List Value).toArray) s 0 0 A) (F0 m 0 ls [])
  refine lv_iload_n hx hb dX8_buildOrBreak_0 rfl (lv_at hl 1 rfl) ?_
  refine lv_aload_n hx hb dX8_buildOrBreak_1 rfl (lv_at hl 0 rfl) ?_
  refine va_get (D := D) (ci := 8) (v := .ref w) (C := RX8) (T := TX8) (N := 10) hx hb hts hiX8 hown hK hP 0 rfl rfl 0 (by decide) (hts (.fieldLink RX8 12 "LedgeLeaps" "world" "LLedgeLeaps$World;") (List.mem_of_getElem? (i := 1) rfl)) (fun _ h9 => h9) rfl dX8_buildOrBreak_2 ?_
  refine va_get (D := D) (ci := 7) (v := .int wc) (C := RX7) (T := TX7) (N := 7) hx hb hts hiX7 hown hK hP 1 rfl rfl 2 (by decide) (hts (.fieldLink RX8 137 "LedgeLeaps$World" "column" "I") (List.mem_of_getElem? (i := 2) rfl)) (fun _ h9 => h9) rfl dX8_buildOrBreak_5 ?_
  refine lv_icmp_ne (tgt := 37) hx hb dX8_buildOrBreak_8 (by decide) (fun c_8 => ?_) (fun c_8 => ?_)
  · refine lv_aload_n hx hb dX8_buildOrBreak_37 rfl (lv_at hl 0 rfl) ?_
    refine va_get (D := D) (ci := 8) (v := .ref w) (C := RX8) (T := TX8) (N := 10) hx hb hts hiX8 hown hK hP 0 rfl rfl 0 (by decide) (hts (.fieldLink RX8 12 "LedgeLeaps" "world" "LLedgeLeaps$World;") (List.mem_of_getElem? (i := 1) rfl)) (fun _ h9 => h9) rfl dX8_buildOrBreak_38 ?_
    refine lv_iload_n hx hb dX8_buildOrBreak_41 rfl (lv_at hl 1 rfl) ?_
    refine lv_iload_n hx hb dX8_buildOrBreak_42 rfl (lv_at hl 2 rfl) ?_
    refine cV_v CF hK hN hA hS (cut_of 4 [1, 2, 0, 3] hP hD rfl rfl rfl) (m_turnBlock l D cI cZ cW cJ A (oX8 xo w hi sn tx f mm re ro (bI mk) (bI rk) :: aI cI ws 3 wse :: X) w wb ws wc wr wl ww wf wbl (nI ac) (nI ar)) (cwV 2 hts gX8_buildOrBreak_X7_turnBlock rfl rfl rfl (by decide +kernel) ⟨Nat.le_of_ble_eq_true rfl, Nat.le_of_ble_eq_true rfl⟩) (As := [.int (nI ac), .int (nI ar)]) (rest := []) (ci := 7) (q0 := 0) rfl rfl rfl hl.1 rfl (Nat.le_of_ble_eq_true rfl) dX8_buildOrBreak_43 ⟨Nat.le_of_ble_eq_true rfl, Nat.le_of_ble_eq_true rfl⟩ (fun u_43 H locs hq hP hD hS => ?_)
    have hq_43 : u_43 = tbX wbl (nI ac) (nI ar) := hq
    have hP : va_P D vwCl (oX8 xo w hi sn tx f mm re ro (bI mk) (bI rk) :: oX7 w wb ws wc wr wl ww wf :: aI cI wb 10 u_43 :: aI cI ws 3 wse :: X) H := pm_P hP 4 [2, 0, 1, 3] rfl
    have hD : va_D A (oX8 xo w hi sn tx f mm re ro (bI mk) (bI rk) :: oX7 w wb ws wc wr wl ww wf :: aI cI wb 10 u_43 :: aI cI ws 3 wse :: X) := pm_D hD 4 [2, 0, 1, 3] rfl rfl rfl
    rw [hq_43] at hP hD
    have hP : va_P D vwCl (oX8 xo w hi sn tx f mm re ro (bI mk) (bI rk) :: oX7 w wb ws wc wr wl ww wf :: aI cI wb 10 (tbX wbl (nI ac) (nI ar)) :: aI cI ws 3 wse :: X) H := hP
    have hD : va_D A (oX8 xo w hi sn tx f mm re ro (bI mk) (bI rk) :: oX7 w wb ws wc wr wl ww wf :: aI cI wb 10 (tbX wbl (nI ac) (nI ar)) :: aI cI ws 3 wse :: X) := hD
    refine lv_aload_n hx hb dX8_buildOrBreak_46 rfl (lv_at hl 0 rfl) ?_
    refine va_get (D := D) (ci := 8) (v := .ref w) (C := RX8) (T := TX8) (N := 10) hx hb hts hiX8 hown hK hP 0 rfl rfl 0 (by decide) (hts (.fieldLink RX8 12 "LedgeLeaps" "world" "LLedgeLeaps$World;") (List.mem_of_getElem? (i := 1) rfl)) (fun _ h9 => h9) rfl dX8_buildOrBreak_47 ?_
    refine cV_v CF hK hN hA hS (cut_of 4 [1, 2, 0, 3] hP hD rfl rfl rfl) (m_letRunnerFall l D cI cZ cW cJ A (oX8 xo w hi sn tx f mm re ro (bI mk) (bI rk) :: aI cI ws 3 wse :: X) w wb ws wc wr wl ww wf (tbX wbl (nI ac) (nI ar))) (cwV 0 hts gX8_buildOrBreak_X7_letRunnerFall rfl rfl rfl (by decide +kernel) ⟨Nat.le_of_ble_eq_true rfl, Nat.le_of_ble_eq_true rfl⟩) (As := []) (rest := []) (ci := 7) (q0 := 0) rfl rfl rfl hl.1 rfl (Nat.le_of_ble_eq_true rfl) dX8_buildOrBreak_50 ⟨Nat.le_of_ble_eq_true rfl, Nat.le_of_ble_eq_true rfl⟩ (fun u_50 H locs hq hP hD hS => ?_)
    have hq_50 : u_50 = fallB (blkX (tbX wbl (nI ac) (nI ar))) wc 10 wr := hq
    have hP : va_P D vwCl (oX8 xo w hi sn tx f mm re ro (bI mk) (bI rk) :: oX7 w wb ws wc u_50 wl ww wf :: aI cI wb 10 (tbX wbl (nI ac) (nI ar)) :: aI cI ws 3 wse :: X) H := pm_P hP 4 [2, 0, 1, 3] rfl
    have hD : va_D A (oX8 xo w hi sn tx f mm re ro (bI mk) (bI rk) :: oX7 w wb ws wc u_50 wl ww wf :: aI cI wb 10 (tbX wbl (nI ac) (nI ar)) :: aI cI ws 3 wse :: X) := pm_D hD 4 [2, 0, 1, 3] rfl rfl rfl
    rw [hq_50] at hP hD
    have hP : va_P D vwCl (oX8 xo w hi sn tx f mm re ro (bI mk) (bI rk) :: oX7 w wb ws wc (fallB (blkX (tbX wbl (nI ac) (nI ar))) wc 10 wr) wl ww wf :: aI cI wb 10 (tbX wbl (nI ac) (nI ar)) :: aI cI ws 3 wse :: X) H := hP
    have hD : va_D A (oX8 xo w hi sn tx f mm re ro (bI mk) (bI rk) :: oX7 w wb ws wc (fallB (blkX (tbX wbl (nI ac) (nI ar))) wc 10 wr) wl ww wf :: aI cI wb 10 (tbX wbl (nI ac) (nI ar)) :: aI cI ws 3 wse :: X) := hD
    refine lv_aload_n hx hb dX8_buildOrBreak_53 rfl (lv_at hl 0 rfl) ?_
    refine cV_v CF hK hN hA hS (cut_of 4 [0, 1, 2, 3] hP hD rfl rfl rfl) (m_forgetLevel l D cI cZ cW cJ A (oX7 w wb ws wc (fallB (blkX (tbX wbl (nI ac) (nI ar))) wc 10 wr) wl ww wf :: aI cI wb 10 (tbX wbl (nI ac) (nI ar)) :: aI cI ws 3 wse :: X) xo w hi sn tx f mm re ro mk rk) (cwV 0 hts gX8_buildOrBreak_X8_forgetLevel rfl rfl rfl (by decide +kernel) ⟨Nat.le_of_ble_eq_true rfl, Nat.le_of_ble_eq_true rfl⟩) (As := []) (rest := []) (ci := 8) (q0 := 0) rfl rfl rfl hl.1 rfl (Nat.le_of_ble_eq_true rfl) dX8_buildOrBreak_54 ⟨Nat.le_of_ble_eq_true rfl, Nat.le_of_ble_eq_true rfl⟩ (fun _ H locs hq hP hD hS => ?_)
    have hP : va_P D vwCl (oX8 xo w hi sn tx f mm re ro (bI false) (bI false) :: oX7 w wb ws wc (fallB (blkX (tbX wbl (nI ac) (nI ar))) wc 10 wr) wl ww wf :: aI cI wb 10 (tbX wbl (nI ac) (nI ar)) :: aI cI ws 3 wse :: X) H := pm_P hP 4 [0, 1, 2, 3] rfl
    have hD : va_D A (oX8 xo w hi sn tx f mm re ro (bI false) (bI false) :: oX7 w wb ws wc (fallB (blkX (tbX wbl (nI ac) (nI ar))) wc 10 wr) wl ww wf :: aI cI wb 10 (tbX wbl (nI ac) (nI ar)) :: aI cI ws 3 wse :: X) := pm_D hD 4 [0, 1, 2, 3] rfl rfl rfl
    refine lv_aload_n hx hb dX8_buildOrBreak_57 rfl (lv_at hl 0 rfl) ?_
    refine va_get (D := D) (ci := 8) (v := .ref w) (C := RX8) (T := TX8) (N := 10) hx hb hts hiX8 hown hK hP 0 rfl rfl 0 (by decide) (hts (.fieldLink RX8 12 "LedgeLeaps" "world" "LLedgeLeaps$World;") (List.mem_of_getElem? (i := 1) rfl)) (fun _ h9 => h9) rfl dX8_buildOrBreak_58 ?_
    refine lv_iload_n hx hb dX8_buildOrBreak_61 rfl (lv_at hl 1 rfl) ?_
    refine lv_iload_n hx hb dX8_buildOrBreak_62 rfl (lv_at hl 2 rfl) ?_
    refine cV_i CF hK hN hA hS (cut_of 4 [1, 2, 0, 3] hP hD rfl rfl rfl) (m_isBlock l D cI cZ cW cJ A (oX8 xo w hi sn tx f mm re ro (bI false) (bI false) :: aI cI ws 3 wse :: X) w wb ws wc (fallB (blkX (tbX wbl (nI ac) (nI ar))) wc 10 wr) wl ww wf (tbX wbl (nI ac) (nI ar)) (nI ac) (nI ar)) (cwV 2 hts gX8_buildOrBreak_X7_isBlock rfl rfl rfl (by decide +kernel) ⟨Nat.le_of_ble_eq_true rfl, Nat.le_of_ble_eq_true rfl⟩) (As := [.int (nI ac), .int (nI ar)]) (rest := []) (ci := 7) (q0 := 0) rfl rfl rfl hl.1 rfl (Nat.le_of_ble_eq_true rfl) dX8_buildOrBreak_63 ⟨Nat.le_of_ble_eq_true rfl, Nat.le_of_ble_eq_true rfl⟩ (fun r_63 _ H locs hq hP hD hS => ?_)
    have hq : r_63 = bI (blkX (tbX wbl (nI ac) (nI ar)) (nI ac) (nI ar)) := hq
    subst hq
    have hP : va_P D vwCl (oX8 xo w hi sn tx f mm re ro (bI false) (bI false) :: oX7 w wb ws wc (fallB (blkX (tbX wbl (nI ac) (nI ar))) wc 10 wr) wl ww wf :: aI cI wb 10 (tbX wbl (nI ac) (nI ar)) :: aI cI ws 3 wse :: X) H := pm_P hP 4 [2, 0, 1, 3] rfl
    have hD : va_D A (oX8 xo w hi sn tx f mm re ro (bI false) (bI false) :: oX7 w wb ws wc (fallB (blkX (tbX wbl (nI ac) (nI ar))) wc 10 wr) wl ww wf :: aI cI wb 10 (tbX wbl (nI ac) (nI ar)) :: aI cI ws 3 wse :: X) := pm_D hD 4 [2, 0, 1, 3] rfl rfl rfl
    refine lv_if_eq (tgt := 73) hx hb dX8_buildOrBreak_66 (by decide) (fun c_66 => ?_) (fun c_66 => ?_)
    · refine lv_iconst (v := 0) hx hb dX8_buildOrBreak_73 (by decide) ?_
      have hne : ¬ (ac = S.2.2.1.1 ∧ ar = S.2.2.1.2) := fun q => c_8 (by rw [hS0.at_c, q.1])
      obtain ⟨hA9, hB9⟩ := hS0.build hWf hac har hne
      have hr9 : (buildK S ac ar).2 = bI (Bk (flipL S.1 ac ar) (nI ac) (nI ar)) := by unfold buildK; rw [if_neg hne]
      exact W.iret (v := 0) hx hb hr (fun t9 ht9 hW9 => ⟨⟨0, (tbX wbl (nI ac) (nI ar), fallB (blkX (tbX wbl (nI ac) (nI ar))) wc 10 wr, wf, false, false), rfl, by rw [hr9, ← hB9]; exact ⟨by rw [bf_c c_66]; rfl, hA9, Or.inr ⟨rfl, rfl⟩⟩, by rw [ht9]; exact hP, hD⟩, hS.F ht9⟩) hS.2.2 dX8_buildOrBreak_74
    · refine lv_iconst (v := 1) hx hb dX8_buildOrBreak_69 (by decide) ?_
      refine lv_goto (tgt := 74) hx hb dX8_buildOrBreak_70 (by decide) ?_
      have hne : ¬ (ac = S.2.2.1.1 ∧ ar = S.2.2.1.2) := fun q => c_8 (by rw [hS0.at_c, q.1])
      obtain ⟨hA9, hB9⟩ := hS0.build hWf hac har hne
      have hr9 : (buildK S ac ar).2 = bI (Bk (flipL S.1 ac ar) (nI ac) (nI ar)) := by unfold buildK; rw [if_neg hne]
      exact W.iret (v := 1) hx hb hr (fun t9 ht9 hW9 => ⟨⟨1, (tbX wbl (nI ac) (nI ar), fallB (blkX (tbX wbl (nI ac) (nI ar))) wc 10 wr, wf, false, false), rfl, by rw [hr9, ← hB9]; exact ⟨by rw [bt_c c_66]; rfl, hA9, Or.inr ⟨rfl, rfl⟩⟩, by rw [ht9]; exact hP, hD⟩, hS.F ht9⟩) hS.2.2 dX8_buildOrBreak_74
  · refine lv_iload_n hx hb dX8_buildOrBreak_11 rfl (lv_at hl 2 rfl) ?_
    refine lv_aload_n hx hb dX8_buildOrBreak_12 rfl (lv_at hl 0 rfl) ?_
    refine va_get (D := D) (ci := 8) (v := .ref w) (C := RX8) (T := TX8) (N := 10) hx hb hts hiX8 hown hK hP 0 rfl rfl 0 (by decide) (hts (.fieldLink RX8 12 "LedgeLeaps" "world" "LLedgeLeaps$World;") (List.mem_of_getElem? (i := 1) rfl)) (fun _ h9 => h9) rfl dX8_buildOrBreak_13 ?_
    refine va_get (D := D) (ci := 7) (v := .int wr) (C := RX7) (T := TX7) (N := 7) hx hb hts hiX7 hown hK hP 1 rfl rfl 3 (by decide) (hts (.fieldLink RX8 140 "LedgeLeaps$World" "row" "I") (List.mem_of_getElem? (i := 3) rfl)) (fun _ h9 => h9) rfl dX8_buildOrBreak_16 ?_
    refine lv_icmp_ne (tgt := 37) hx hb dX8_buildOrBreak_19 (by decide) (fun c_19 => ?_) (fun c_19 => ?_)
    · refine lv_aload_n hx hb dX8_buildOrBreak_37 rfl (lv_at hl 0 rfl) ?_
      refine va_get (D := D) (ci := 8) (v := .ref w) (C := RX8) (T := TX8) (N := 10) hx hb hts hiX8 hown hK hP 0 rfl rfl 0 (by decide) (hts (.fieldLink RX8 12 "LedgeLeaps" "world" "LLedgeLeaps$World;") (List.mem_of_getElem? (i := 1) rfl)) (fun _ h9 => h9) rfl dX8_buildOrBreak_38 ?_
      refine lv_iload_n hx hb dX8_buildOrBreak_41 rfl (lv_at hl 1 rfl) ?_
      refine lv_iload_n hx hb dX8_buildOrBreak_42 rfl (lv_at hl 2 rfl) ?_
      refine cV_v CF hK hN hA hS (cut_of 4 [1, 2, 0, 3] hP hD rfl rfl rfl) (m_turnBlock l D cI cZ cW cJ A (oX8 xo w hi sn tx f mm re ro (bI mk) (bI rk) :: aI cI ws 3 wse :: X) w wb ws wc wr wl ww wf wbl (nI ac) (nI ar)) (cwV 2 hts gX8_buildOrBreak_X7_turnBlock rfl rfl rfl (by decide +kernel) ⟨Nat.le_of_ble_eq_true rfl, Nat.le_of_ble_eq_true rfl⟩) (As := [.int (nI ac), .int (nI ar)]) (rest := []) (ci := 7) (q0 := 0) rfl rfl rfl hl.1 rfl (Nat.le_of_ble_eq_true rfl) dX8_buildOrBreak_43 ⟨Nat.le_of_ble_eq_true rfl, Nat.le_of_ble_eq_true rfl⟩ (fun u_43 H locs hq hP hD hS => ?_)
      have hq_43 : u_43 = tbX wbl (nI ac) (nI ar) := hq
      have hP : va_P D vwCl (oX8 xo w hi sn tx f mm re ro (bI mk) (bI rk) :: oX7 w wb ws wc wr wl ww wf :: aI cI wb 10 u_43 :: aI cI ws 3 wse :: X) H := pm_P hP 4 [2, 0, 1, 3] rfl
      have hD : va_D A (oX8 xo w hi sn tx f mm re ro (bI mk) (bI rk) :: oX7 w wb ws wc wr wl ww wf :: aI cI wb 10 u_43 :: aI cI ws 3 wse :: X) := pm_D hD 4 [2, 0, 1, 3] rfl rfl rfl
      rw [hq_43] at hP hD
      have hP : va_P D vwCl (oX8 xo w hi sn tx f mm re ro (bI mk) (bI rk) :: oX7 w wb ws wc wr wl ww wf :: aI cI wb 10 (tbX wbl (nI ac) (nI ar)) :: aI cI ws 3 wse :: X) H := hP
      have hD : va_D A (oX8 xo w hi sn tx f mm re ro (bI mk) (bI rk) :: oX7 w wb ws wc wr wl ww wf :: aI cI wb 10 (tbX wbl (nI ac) (nI ar)) :: aI cI ws 3 wse :: X) := hD
      refine lv_aload_n hx hb dX8_buildOrBreak_46 rfl (lv_at hl 0 rfl) ?_
      refine va_get (D := D) (ci := 8) (v := .ref w) (C := RX8) (T := TX8) (N := 10) hx hb hts hiX8 hown hK hP 0 rfl rfl 0 (by decide) (hts (.fieldLink RX8 12 "LedgeLeaps" "world" "LLedgeLeaps$World;") (List.mem_of_getElem? (i := 1) rfl)) (fun _ h9 => h9) rfl dX8_buildOrBreak_47 ?_
      refine cV_v CF hK hN hA hS (cut_of 4 [1, 2, 0, 3] hP hD rfl rfl rfl) (m_letRunnerFall l D cI cZ cW cJ A (oX8 xo w hi sn tx f mm re ro (bI mk) (bI rk) :: aI cI ws 3 wse :: X) w wb ws wc wr wl ww wf (tbX wbl (nI ac) (nI ar))) (cwV 0 hts gX8_buildOrBreak_X7_letRunnerFall rfl rfl rfl (by decide +kernel) ⟨Nat.le_of_ble_eq_true rfl, Nat.le_of_ble_eq_true rfl⟩) (As := []) (rest := []) (ci := 7) (q0 := 0) rfl rfl rfl hl.1 rfl (Nat.le_of_ble_eq_true rfl) dX8_buildOrBreak_50 ⟨Nat.le_of_ble_eq_true rfl, Nat.le_of_ble_eq_true rfl⟩ (fun u_50 H locs hq hP hD hS => ?_)
      have hq_50 : u_50 = fallB (blkX (tbX wbl (nI ac) (nI ar))) wc 10 wr := hq
      have hP : va_P D vwCl (oX8 xo w hi sn tx f mm re ro (bI mk) (bI rk) :: oX7 w wb ws wc u_50 wl ww wf :: aI cI wb 10 (tbX wbl (nI ac) (nI ar)) :: aI cI ws 3 wse :: X) H := pm_P hP 4 [2, 0, 1, 3] rfl
      have hD : va_D A (oX8 xo w hi sn tx f mm re ro (bI mk) (bI rk) :: oX7 w wb ws wc u_50 wl ww wf :: aI cI wb 10 (tbX wbl (nI ac) (nI ar)) :: aI cI ws 3 wse :: X) := pm_D hD 4 [2, 0, 1, 3] rfl rfl rfl
      rw [hq_50] at hP hD
      have hP : va_P D vwCl (oX8 xo w hi sn tx f mm re ro (bI mk) (bI rk) :: oX7 w wb ws wc (fallB (blkX (tbX wbl (nI ac) (nI ar))) wc 10 wr) wl ww wf :: aI cI wb 10 (tbX wbl (nI ac) (nI ar)) :: aI cI ws 3 wse :: X) H := hP
      have hD : va_D A (oX8 xo w hi sn tx f mm re ro (bI mk) (bI rk) :: oX7 w wb ws wc (fallB (blkX (tbX wbl (nI ac) (nI ar))) wc 10 wr) wl ww wf :: aI cI wb 10 (tbX wbl (nI ac) (nI ar)) :: aI cI ws 3 wse :: X) := hD
      refine lv_aload_n hx hb dX8_buildOrBreak_53 rfl (lv_at hl 0 rfl) ?_
      refine cV_v CF hK hN hA hS (cut_of 4 [0, 1, 2, 3] hP hD rfl rfl rfl) (m_forgetLevel l D cI cZ cW cJ A (oX7 w wb ws wc (fallB (blkX (tbX wbl (nI ac) (nI ar))) wc 10 wr) wl ww wf :: aI cI wb 10 (tbX wbl (nI ac) (nI ar)) :: aI cI ws 3 wse :: X) xo w hi sn tx f mm re ro mk rk) (cwV 0 hts gX8_buildOrBreak_X8_forgetLevel rfl rfl rfl (by decide +kernel) ⟨Nat.le_of_ble_eq_true rfl, Nat.le_of_ble_eq_true rfl⟩) (As := []) (rest := []) (ci := 8) (q0 := 0) rfl rfl rfl hl.1 rfl (Nat.le_of_ble_eq_true rfl) dX8_buildOrBreak_54 ⟨Nat.le_of_ble_eq_true rfl, Nat.le_of_ble_eq_true rfl⟩ (fun _ H locs hq hP hD hS => ?_)
      have hP : va_P D vwCl (oX8 xo w hi sn tx f mm re ro (bI false) (bI false) :: oX7 w wb ws wc (fallB (blkX (tbX wbl (nI ac) (nI ar))) wc 10 wr) wl ww wf :: aI cI wb 10 (tbX wbl (nI ac) (nI ar)) :: aI cI ws 3 wse :: X) H := pm_P hP 4 [0, 1, 2, 3] rfl
      have hD : va_D A (oX8 xo w hi sn tx f mm re ro (bI false) (bI false) :: oX7 w wb ws wc (fallB (blkX (tbX wbl (nI ac) (nI ar))) wc 10 wr) wl ww wf :: aI cI wb 10 (tbX wbl (nI ac) (nI ar)) :: aI cI ws 3 wse :: X) := pm_D hD 4 [0, 1, 2, 3] rfl rfl rfl
      refine lv_aload_n hx hb dX8_buildOrBreak_57 rfl (lv_at hl 0 rfl) ?_
      refine va_get (D := D) (ci := 8) (v := .ref w) (C := RX8) (T := TX8) (N := 10) hx hb hts hiX8 hown hK hP 0 rfl rfl 0 (by decide) (hts (.fieldLink RX8 12 "LedgeLeaps" "world" "LLedgeLeaps$World;") (List.mem_of_getElem? (i := 1) rfl)) (fun _ h9 => h9) rfl dX8_buildOrBreak_58 ?_
      refine lv_iload_n hx hb dX8_buildOrBreak_61 rfl (lv_at hl 1 rfl) ?_
      refine lv_iload_n hx hb dX8_buildOrBreak_62 rfl (lv_at hl 2 rfl) ?_
      refine cV_i CF hK hN hA hS (cut_of 4 [1, 2, 0, 3] hP hD rfl rfl rfl) (m_isBlock l D cI cZ cW cJ A (oX8 xo w hi sn tx f mm re ro (bI false) (bI false) :: aI cI ws 3 wse :: X) w wb ws wc (fallB (blkX (tbX wbl (nI ac) (nI ar))) wc 10 wr) wl ww wf (tbX wbl (nI ac) (nI ar)) (nI ac) (nI ar)) (cwV 2 hts gX8_buildOrBreak_X7_isBlock rfl rfl rfl (by decide +kernel) ⟨Nat.le_of_ble_eq_true rfl, Nat.le_of_ble_eq_true rfl⟩) (As := [.int (nI ac), .int (nI ar)]) (rest := []) (ci := 7) (q0 := 0) rfl rfl rfl hl.1 rfl (Nat.le_of_ble_eq_true rfl) dX8_buildOrBreak_63 ⟨Nat.le_of_ble_eq_true rfl, Nat.le_of_ble_eq_true rfl⟩ (fun r_63 _ H locs hq hP hD hS => ?_)
      have hq : r_63 = bI (blkX (tbX wbl (nI ac) (nI ar)) (nI ac) (nI ar)) := hq
      subst hq
      have hP : va_P D vwCl (oX8 xo w hi sn tx f mm re ro (bI false) (bI false) :: oX7 w wb ws wc (fallB (blkX (tbX wbl (nI ac) (nI ar))) wc 10 wr) wl ww wf :: aI cI wb 10 (tbX wbl (nI ac) (nI ar)) :: aI cI ws 3 wse :: X) H := pm_P hP 4 [2, 0, 1, 3] rfl
      have hD : va_D A (oX8 xo w hi sn tx f mm re ro (bI false) (bI false) :: oX7 w wb ws wc (fallB (blkX (tbX wbl (nI ac) (nI ar))) wc 10 wr) wl ww wf :: aI cI wb 10 (tbX wbl (nI ac) (nI ar)) :: aI cI ws 3 wse :: X) := pm_D hD 4 [2, 0, 1, 3] rfl rfl rfl
      refine lv_if_eq (tgt := 73) hx hb dX8_buildOrBreak_66 (by decide) (fun c_66 => ?_) (fun c_66 => ?_)
      · refine lv_iconst (v := 0) hx hb dX8_buildOrBreak_73 (by decide) ?_
        have hne : ¬ (ac = S.2.2.1.1 ∧ ar = S.2.2.1.2) := fun q => c_19 (by rw [hS0.at_r, q.2])
        obtain ⟨hA9, hB9⟩ := hS0.build hWf hac har hne
        have hr9 : (buildK S ac ar).2 = bI (Bk (flipL S.1 ac ar) (nI ac) (nI ar)) := by unfold buildK; rw [if_neg hne]
        exact W.iret (v := 0) hx hb hr (fun t9 ht9 hW9 => ⟨⟨0, (tbX wbl (nI ac) (nI ar), fallB (blkX (tbX wbl (nI ac) (nI ar))) wc 10 wr, wf, false, false), rfl, by rw [hr9, ← hB9]; exact ⟨by rw [bf_c c_66]; rfl, hA9, Or.inr ⟨rfl, rfl⟩⟩, by rw [ht9]; exact hP, hD⟩, hS.F ht9⟩) hS.2.2 dX8_buildOrBreak_74
      · refine lv_iconst (v := 1) hx hb dX8_buildOrBreak_69 (by decide) ?_
        refine lv_goto (tgt := 74) hx hb dX8_buildOrBreak_70 (by decide) ?_
        have hne : ¬ (ac = S.2.2.1.1 ∧ ar = S.2.2.1.2) := fun q => c_19 (by rw [hS0.at_r, q.2])
        obtain ⟨hA9, hB9⟩ := hS0.build hWf hac har hne
        have hr9 : (buildK S ac ar).2 = bI (Bk (flipL S.1 ac ar) (nI ac) (nI ar)) := by unfold buildK; rw [if_neg hne]
        exact W.iret (v := 1) hx hb hr (fun t9 ht9 hW9 => ⟨⟨1, (tbX wbl (nI ac) (nI ar), fallB (blkX (tbX wbl (nI ac) (nI ar))) wc 10 wr, wf, false, false), rfl, by rw [hr9, ← hB9]; exact ⟨by rw [bt_c c_66]; rfl, hA9, Or.inr ⟨rfl, rfl⟩⟩, by rw [ht9]; exact hP, hD⟩, hS.F ht9⟩) hS.2.2 dX8_buildOrBreak_74
    · refine lv_aload_n hx hb dX8_buildOrBreak_22 rfl (lv_at hl 0 rfl) ?_
      refine va_get (D := D) (ci := 8) (v := .ref w) (C := RX8) (T := TX8) (N := 10) hx hb hts hiX8 hown hK hP 0 rfl rfl 0 (by decide) (hts (.fieldLink RX8 12 "LedgeLeaps" "world" "LLedgeLeaps$World;") (List.mem_of_getElem? (i := 1) rfl)) (fun _ h9 => h9) rfl dX8_buildOrBreak_23 ?_
      refine lv_dup hx hb dX8_buildOrBreak_26 rfl ?_
      refine va_get (D := D) (ci := 7) (v := .int wf) (C := RX7) (T := TX7) (N := 7) hx hb hts hiX7 hown hK hP 1 rfl rfl 6 (by decide) (hts (.fieldLink RX8 133 "LedgeLeaps$World" "refused" "I") (List.mem_of_getElem? (i := 4) rfl)) (fun _ h9 => h9) rfl dX8_buildOrBreak_27 ?_
      refine lv_iconst (v := 1) hx hb dX8_buildOrBreak_30 (by decide) ?_
      refine lv_iadd hx hb dX8_buildOrBreak_31 ?_
      refine va_put (D := D) (ci := 7) (v := .int (wf + 1)) (ty := .int) (C := RX7) (T := TX7) (N := 7) hx hb hts hiX7 tyX7 tyX7_ok nmX7 hown hK hP hD hS 1 rfl rfl 6 (by decide) (hts (.fieldLink RX8 133 "LedgeLeaps$World" "refused" "I") (List.mem_of_getElem? (i := 4) rfl)) (fun _ h9 => h9) rfl (by decide +kernel) rfl rfl (Nat.le_of_ble_eq_true rfl) dX8_buildOrBreak_32 (fun H locs hP hD hS => ?_)
      have hP : va_P D vwCl (oX8 xo w hi sn tx f mm re ro (bI mk) (bI rk) :: oX7 w wb ws wc wr wl ww (wf + 1) :: aI cI wb 10 wbl :: aI cI ws 3 wse :: X) H := hP
      have hD : va_D A (oX8 xo w hi sn tx f mm re ro (bI mk) (bI rk) :: oX7 w wb ws wc wr wl ww (wf + 1) :: aI cI wb 10 wbl :: aI cI ws 3 wse :: X) := hD
      refine lv_iconst (v := (-1)) hx hb dX8_buildOrBreak_35 (by decide) ?_
      have hsame : ac = S.2.2.1.1 ∧ ar = S.2.2.1.2 := ⟨nI_inj (by omega) (by have := hWf.2.1; omega) (c_8.trans hS0.at_c), nI_inj (by omega) (by have := hWf.2.2.1; omega) (c_19.trans hS0.at_r)⟩
      have hbK : buildK S ac ar = (refK S, -1) := by unfold buildK; rw [if_pos hsame]
      exact W.iret (v := (-1)) hx hb hr (fun t9 ht9 hW9 => ⟨⟨(-1), (wbl, wr, wf + 1, mk, rk), rfl, by rw [hbK]; exact ⟨rfl, hS0.ref, Or.inl ⟨rfl, rfl, rfl⟩⟩, by rw [ht9]; exact hP, hD⟩, hS.F ht9⟩) hS.2.2 dX8_buildOrBreak_36
theorem AbsX.walk {S : KS} {bl se : Nat → Int32} {c r l w f d : Int32} (h : AbsX S bl se c r l w f) (hs : stB (blkX bl) (c + d) r = true) : (walkK S d).2 = c + d ∧ AbsX (walkK S d).1 bl se (c + d) r l w f := by
  rw [blk_abs h, h.at_c, h.at_r] at hs
  unfold walkK
  rw [if_pos hs]
  obtain ⟨i, j, hi, hj, e1, -⟩ := st_rng hs
  refine ⟨by rw [h.at_c], h.1, h.2.1, ⟨?_, h.at_r⟩, h.2.2.2⟩
  rw [h.at_c, e1]
  show nI i = nI (nI i).toNatClampNeg
  rw [nI_clamp (by omega)]
theorem AbsX.nwalk {S : KS} {bl se : Nat → Int32} {c r l w f d : Int32} (h : AbsX S bl se c r l w f) (hs : stB (blkX bl) (c + d) r = false) : walkK S d = (refK S, -1) := by
  rw [blk_abs h, h.at_c, h.at_r] at hs
  unfold walkK
  rw [if_neg (by rw [hs]; decide)]
theorem AbsX.nleap {S : KS} {bl se : Nat → Int32} {c r l w f d : Int32} {k : Nat} (h : AbsX S bl se c r l w f) (hs : grB (blkX bl) c r d < nI k) : leapK S d k = (refK S, -1) := by
  rw [blk_abs h, h.at_c, h.at_r] at hs
  unfold leapK
  rw [if_pos hs]
theorem AbsX.leap {S : KS} {bl se : Nat → Int32} {c r l w f d : Int32} {k : Nat} {u : FS} (h : AbsX S bl se c r l w f) (hw : Wf S) (hs : ¬ grB (blkX bl) c r d < nI k) (hu : u = flyF (blkX bl) d (se 1) (se 2) 100 c r 0 r false (nI k + 1) (se 0)) :
    (leapK S d k).2 = 100 * u.2.1 + u.1 ∧ AbsX (leapK S d k).1 bl se u.1 u.2.1 (l + 1) (if u.2.2.2.2.1 = true then w + 1 else w) f := by
  have e : u = leapR S d k := by rw [hu, blk_abs h, h.at_c, h.at_r, h.2.1.1, h.2.1.2.1, h.2.1.2.2]; rfl
  rw [blk_abs h, h.at_c, h.at_r] at hs
  unfold leapK
  rw [if_neg hs, e]
  obtain ⟨i, j, hi, hj, e1, e2, -⟩ := leap_land hw d k
  refine ⟨rfl, h.1, h.2.1, ⟨?_, ?_⟩, ?_, ?_, h.2.2.2.2.2⟩
  · show (leapR S d k).1 = nI (leapR S d k).1.toNatClampNeg
    rw [e1, nI_clamp (by omega)]
  · show (leapR S d k).2.1 = nI (leapR S d k).2.1.toNatClampNeg
    rw [e2, nI_clamp (by omega)]
  · show l + 1 = S.2.2.2.1 + 1
    rw [h.2.2.2.1]
  · show (if (leapR S d k).2.2.2.2.1 = true then w + 1 else w) = if (leapR S d k).2.2.2.2.1 = true then S.2.2.2.2.1 + 1 else S.2.2.2.2.1
    rw [h.2.2.2.2.1]
set_option maxHeartbeats 4000000 in
set_option maxRecDepth 100000 in
theorem m_runnerWalks (l : Launch) (D : va_G) (cI cZ cW cJ : ClassId) (A : Nat → Prop) (X : va_W) (xo hi sn tx f mm re ro : Nat) (mk rk : Bool) (w wb ws : Nat) (wc wr wl ww wf : Int32) (wbl wse : Nat → Int32) (S : KS) (xd : Int32) (hS0 : AbsX S wbl wse wc wr wl ww wf) : Met l yX8_runnerWalks wsX8_runnerWalks ({ frames := 2, cells := 0, slots := 0, locals := 44 }) (va_Pc [.ref xo, .int xd] (wd D (tyL cI cZ cW cJ) A (oX8 xo w hi sn tx f mm re ro (bI mk) (bI rk) :: oX7 w wb ws wc wr wl ww wf :: aI cI wb 10 wbl :: aI cI ws 3 wse :: X))) (va_Qi (fun (r : Int32) (u : Int32 × Int32) => r = (walkK S xd).2 ∧ AbsX (walkK S xd).1 wbl wse u.1 wr wl ww u.2) (fun (u : Int32 × Int32) t => wq D A (oX8 xo w hi sn tx f mm re ro (bI mk) (bI rk) :: oX7 w wb ws u.1 wr wl ww u.2 :: aI cI wb 10 wbl :: aI cI ws 3 wse :: X) t) A) 0 0 A := by
  refine Met.ofW (cc := cX8_runnerWalks) (maxL := 2) (ret := (some .int)) (by decide) rfl ?_
  intro p e s m args below meth c s₁ B hml hv
  obtain ⟨rfl, hsz9, hP, hK, hD, hN⟩ := hv
  have hx := B.exec
  have hb := B.bytes
  have hr := B.returns
  have hts := atoms_spec (ws := wsX8_runnerWalks) B.pre
  have hown : s.vm.findClass RX8 = some m.cls := findClass_of_methodNamed B.named
  have hlocks := B.notSynchronized
  have CF : CallFix p m c cX8_runnerWalks 2 s _ wsX8_runnerWalks RX8 := ⟨hx, hb, hml, hown, hts⟩
  have hA : ∀ q : Nat, s.heap.size ≤ q → A q := hsz9
  have hS : va_S A s.heap s.heap [] := va_S.rf
  have hiX7 : ∀ w ∈ u_ws RX7 TX7 7, w ∈ wsX8_runnerWalks := fun _ h => List.mem_cons_of_mem _ (List.mem_append_right _ (h))
  have hiX8 : ∀ w ∈ u_ws RX8 TX8 10, w ∈ wsX8_runnerWalks := fun _ h => List.mem_cons_of_mem _ (List.mem_append_left _ (List.mem_append_right _ (h)))
  have hl := lv_entry ([.ref xo, .int xd]) (n := 2) (Nat.le_of_ble_eq_true rfl)
  rw [lg_entry_eq]
  generalize (lg_sl ([.ref xo, .int xd]) ++ List.replicate (2 - (lg_sl ([.ref xo, .int xd])).length) Slot.unset).toArray = ls at hl ⊢
  have hl : lv_has ls 2 [(0, .ref xo), (1, .int xd)] := hl
  show W p l e ({ frames := 2, cells := 0, slots := 0, locals := 44 } : Room) s m (([.ref xo, .int xd] : List Value).toArray) below meth c s.heap [] 0 0 (MQ below (va_Qi (fun (r : Int32) (u : Int32 × Int32) => r = (walkK S xd).2 ∧ AbsX (walkK S xd).1 wbl wse u.1 wr wl ww u.2) (fun (u : Int32 × Int32) t => wq D A (oX8 xo w hi sn tx f mm re ro (bI mk) (bI rk) :: oX7 w wb ws u.1 wr wl ww u.2 :: aI cI wb 10 wbl :: aI cI ws 3 wse :: X) t) A) (([.ref xo, .int xd] : List Value).toArray) s 0 0 A) (F0 m 0 ls [])
  refine lv_aload_n hx hb dX8_runnerWalks_0 rfl (lv_at hl 0 rfl) ?_
  refine va_get (D := D) (ci := 8) (v := .ref w) (C := RX8) (T := TX8) (N := 10) hx hb hts hiX8 hown hK hP 0 rfl rfl 0 (by decide) (hts (.fieldLink RX8 12 "LedgeLeaps" "world" "LLedgeLeaps$World;") (List.mem_of_getElem? (i := 1) rfl)) (fun _ h9 => h9) rfl dX8_runnerWalks_1 ?_
  refine lv_aload_n hx hb dX8_runnerWalks_4 rfl (lv_at hl 0 rfl) ?_
  refine va_get (D := D) (ci := 8) (v := .ref w) (C := RX8) (T := TX8) (N := 10) hx hb hts hiX8 hown hK hP 0 rfl rfl 0 (by decide) (hts (.fieldLink RX8 12 "LedgeLeaps" "world" "LLedgeLeaps$World;") (List.mem_of_getElem? (i := 1) rfl)) (fun _ h9 => h9) rfl dX8_runnerWalks_5 ?_
  refine va_get (D := D) (ci := 7) (v := .int wc) (C := RX7) (T := TX7) (N := 7) hx hb hts hiX7 hown hK hP 1 rfl rfl 2 (by decide) (hts (.fieldLink RX8 137 "LedgeLeaps$World" "column" "I") (List.mem_of_getElem? (i := 2) rfl)) (fun _ h9 => h9) rfl dX8_runnerWalks_8 ?_
  refine lv_iload_n hx hb dX8_runnerWalks_11 rfl (lv_at hl 1 rfl) ?_
  refine lv_iadd hx hb dX8_runnerWalks_12 ?_
  refine lv_aload_n hx hb dX8_runnerWalks_13 rfl (lv_at hl 0 rfl) ?_
  refine va_get (D := D) (ci := 8) (v := .ref w) (C := RX8) (T := TX8) (N := 10) hx hb hts hiX8 hown hK hP 0 rfl rfl 0 (by decide) (hts (.fieldLink RX8 12 "LedgeLeaps" "world" "LLedgeLeaps$World;") (List.mem_of_getElem? (i := 1) rfl)) (fun _ h9 => h9) rfl dX8_runnerWalks_14 ?_
  refine va_get (D := D) (ci := 7) (v := .int wr) (C := RX7) (T := TX7) (N := 7) hx hb hts hiX7 hown hK hP 1 rfl rfl 3 (by decide) (hts (.fieldLink RX8 140 "LedgeLeaps$World" "row" "I") (List.mem_of_getElem? (i := 3) rfl)) (fun _ h9 => h9) rfl dX8_runnerWalks_17 ?_
  refine cV_i CF hK hN hA hS (cut_of 4 [1, 2, 0, 3] hP hD rfl rfl rfl) (m_canStand l D cI cZ cW cJ A (oX8 xo w hi sn tx f mm re ro (bI mk) (bI rk) :: aI cI ws 3 wse :: X) w wb ws wc wr wl ww wf wbl (wc + xd) wr) (cwV 2 hts gX8_runnerWalks_X7_canStand rfl rfl rfl (by decide +kernel) ⟨Nat.le_of_ble_eq_true rfl, Nat.le_of_ble_eq_true rfl⟩) (As := [.int (wc + xd), .int wr]) (rest := []) (ci := 7) (q0 := 0) rfl rfl rfl hl.1 rfl (Nat.le_of_ble_eq_true rfl) dX8_runnerWalks_20 ⟨Nat.le_of_ble_eq_true rfl, Nat.le_of_ble_eq_true rfl⟩ (fun r_20 _ H locs hq hP hD hS => ?_)
  have hq : r_20 = bI (stB (blkX wbl) (wc + xd) wr) := hq
  subst hq
  have hP : va_P D vwCl (oX8 xo w hi sn tx f mm re ro (bI mk) (bI rk) :: oX7 w wb ws wc wr wl ww wf :: aI cI wb 10 wbl :: aI cI ws 3 wse :: X) H := pm_P hP 4 [2, 0, 1, 3] rfl
  have hD : va_D A (oX8 xo w hi sn tx f mm re ro (bI mk) (bI rk) :: oX7 w wb ws wc wr wl ww wf :: aI cI wb 10 wbl :: aI cI ws 3 wse :: X) := pm_D hD 4 [2, 0, 1, 3] rfl rfl rfl
  refine lv_if_ne (tgt := 41) hx hb dX8_runnerWalks_23 (by decide) (fun c_23 => ?_) (fun c_23 => ?_)
  · refine lv_aload_n hx hb dX8_runnerWalks_41 rfl (lv_at hl 0 rfl) ?_
    refine va_get (D := D) (ci := 8) (v := .ref w) (C := RX8) (T := TX8) (N := 10) hx hb hts hiX8 hown hK hP 0 rfl rfl 0 (by decide) (hts (.fieldLink RX8 12 "LedgeLeaps" "world" "LLedgeLeaps$World;") (List.mem_of_getElem? (i := 1) rfl)) (fun _ h9 => h9) rfl dX8_runnerWalks_42 ?_
    refine lv_dup hx hb dX8_runnerWalks_45 rfl ?_
    refine va_get (D := D) (ci := 7) (v := .int wc) (C := RX7) (T := TX7) (N := 7) hx hb hts hiX7 hown hK hP 1 rfl rfl 2 (by decide) (hts (.fieldLink RX8 137 "LedgeLeaps$World" "column" "I") (List.mem_of_getElem? (i := 2) rfl)) (fun _ h9 => h9) rfl dX8_runnerWalks_46 ?_
    refine lv_iload_n hx hb dX8_runnerWalks_49 rfl (lv_at hl 1 rfl) ?_
    refine lv_iadd hx hb dX8_runnerWalks_50 ?_
    refine va_put (D := D) (ci := 7) (v := .int (wc + xd)) (ty := .int) (C := RX7) (T := TX7) (N := 7) hx hb hts hiX7 tyX7 tyX7_ok nmX7 hown hK hP hD hS 1 rfl rfl 2 (by decide) (hts (.fieldLink RX8 137 "LedgeLeaps$World" "column" "I") (List.mem_of_getElem? (i := 2) rfl)) (fun _ h9 => h9) rfl (by decide +kernel) rfl rfl (Nat.le_of_ble_eq_true rfl) dX8_runnerWalks_51 (fun H locs hP hD hS => ?_)
    have hP : va_P D vwCl (oX8 xo w hi sn tx f mm re ro (bI mk) (bI rk) :: oX7 w wb ws (wc + xd) wr wl ww wf :: aI cI wb 10 wbl :: aI cI ws 3 wse :: X) H := hP
    have hD : va_D A (oX8 xo w hi sn tx f mm re ro (bI mk) (bI rk) :: oX7 w wb ws (wc + xd) wr wl ww wf :: aI cI wb 10 wbl :: aI cI ws 3 wse :: X) := hD
    refine lv_aload_n hx hb dX8_runnerWalks_54 rfl (lv_at hl 0 rfl) ?_
    refine va_get (D := D) (ci := 8) (v := .ref w) (C := RX8) (T := TX8) (N := 10) hx hb hts hiX8 hown hK hP 0 rfl rfl 0 (by decide) (hts (.fieldLink RX8 12 "LedgeLeaps" "world" "LLedgeLeaps$World;") (List.mem_of_getElem? (i := 1) rfl)) (fun _ h9 => h9) rfl dX8_runnerWalks_55 ?_
    refine va_get (D := D) (ci := 7) (v := .int (wc + xd)) (C := RX7) (T := TX7) (N := 7) hx hb hts hiX7 hown hK hP 1 rfl rfl 2 (by decide) (hts (.fieldLink RX8 137 "LedgeLeaps$World" "column" "I") (List.mem_of_getElem? (i := 2) rfl)) (fun _ h9 => h9) rfl dX8_runnerWalks_58 ?_
    exact W.iret (v := (wc + xd)) hx hb hr (fun t9 ht9 hW9 => ⟨⟨(wc + xd), (wc + xd, wf), rfl, ⟨(hS0.walk (bt_c c_23)).1.symm, (hS0.walk (bt_c c_23)).2⟩, by rw [ht9]; exact hP, hD⟩, hS.F ht9⟩) hS.2.2 dX8_runnerWalks_61
  · refine lv_aload_n hx hb dX8_runnerWalks_26 rfl (lv_at hl 0 rfl) ?_
    refine va_get (D := D) (ci := 8) (v := .ref w) (C := RX8) (T := TX8) (N := 10) hx hb hts hiX8 hown hK hP 0 rfl rfl 0 (by decide) (hts (.fieldLink RX8 12 "LedgeLeaps" "world" "LLedgeLeaps$World;") (List.mem_of_getElem? (i := 1) rfl)) (fun _ h9 => h9) rfl dX8_runnerWalks_27 ?_
    refine lv_dup hx hb dX8_runnerWalks_30 rfl ?_
    refine va_get (D := D) (ci := 7) (v := .int wf) (C := RX7) (T := TX7) (N := 7) hx hb hts hiX7 hown hK hP 1 rfl rfl 6 (by decide) (hts (.fieldLink RX8 133 "LedgeLeaps$World" "refused" "I") (List.mem_of_getElem? (i := 4) rfl)) (fun _ h9 => h9) rfl dX8_runnerWalks_31 ?_
    refine lv_iconst (v := 1) hx hb dX8_runnerWalks_34 (by decide) ?_
    refine lv_iadd hx hb dX8_runnerWalks_35 ?_
    refine va_put (D := D) (ci := 7) (v := .int (wf + 1)) (ty := .int) (C := RX7) (T := TX7) (N := 7) hx hb hts hiX7 tyX7 tyX7_ok nmX7 hown hK hP hD hS 1 rfl rfl 6 (by decide) (hts (.fieldLink RX8 133 "LedgeLeaps$World" "refused" "I") (List.mem_of_getElem? (i := 4) rfl)) (fun _ h9 => h9) rfl (by decide +kernel) rfl rfl (Nat.le_of_ble_eq_true rfl) dX8_runnerWalks_36 (fun H locs hP hD hS => ?_)
    have hP : va_P D vwCl (oX8 xo w hi sn tx f mm re ro (bI mk) (bI rk) :: oX7 w wb ws wc wr wl ww (wf + 1) :: aI cI wb 10 wbl :: aI cI ws 3 wse :: X) H := hP
    have hD : va_D A (oX8 xo w hi sn tx f mm re ro (bI mk) (bI rk) :: oX7 w wb ws wc wr wl ww (wf + 1) :: aI cI wb 10 wbl :: aI cI ws 3 wse :: X) := hD
    refine lv_iconst (v := (-1)) hx hb dX8_runnerWalks_39 (by decide) ?_
    exact W.iret (v := (-1)) hx hb hr (fun t9 ht9 hW9 => ⟨⟨(-1), (wc, wf + 1), rfl, by rw [hS0.nwalk (bf_c c_23)]; exact ⟨rfl, hS0.ref⟩, by rw [ht9]; exact hP, hD⟩, hS.F ht9⟩) hS.2.2 dX8_runnerWalks_40
set_option maxHeartbeats 4000000 in
set_option maxRecDepth 100000 in
theorem m_runnerLeaps (l : Launch) (D : va_G) (cI cZ cW cJ : ClassId) (A : Nat → Prop) (X : va_W) (xo hi sn tx f mm re ro : Nat) (mk rk : Bool) (w wb ws : Nat) (wc wr wl ww wf : Int32) (wbl wse : Nat → Int32) (fc fr ft fo fm fs fi : Int32) (S : KS) (xd : Int32) (ak : Nat) (hS0 : AbsX S wbl wse wc wr wl ww wf) (hWf : Wf S) : Met l yX8_runnerLeaps wsX8_runnerLeaps ({ frames := 3, cells := 0, slots := 0, locals := 71 }) (va_Pc [.ref xo, .int xd, .int (nI ak)] (wd D (tyL cI cZ cW cJ) A (oX8 xo w hi sn tx f mm re ro (bI mk) (bI rk) :: oX7 w wb ws wc wr wl ww wf :: aI cI wb 10 wbl :: aI cI ws 3 wse :: oX0 f fc fr ft fo fm fs fi :: X))) (va_Qi (fun (r : Int32) (u : Int32 × Int32 × Int32 × Int32 × Int32 × Int32 × Int32 × Int32 × Int32 × Int32 × Int32 × Int32) => r = (leapK S xd ak).2 ∧ AbsX (leapK S xd ak).1 wbl wse u.1 u.2.1 u.2.2.1 u.2.2.2.1 u.2.2.2.2.1) (fun (u : Int32 × Int32 × Int32 × Int32 × Int32 × Int32 × Int32 × Int32 × Int32 × Int32 × Int32 × Int32) t => wq D A (oX8 xo w hi sn tx f mm re ro (bI mk) (bI rk) :: oX7 w wb ws u.1 u.2.1 u.2.2.1 u.2.2.2.1 u.2.2.2.2.1 :: aI cI wb 10 wbl :: aI cI ws 3 wse :: oX0 f u.2.2.2.2.2.1 u.2.2.2.2.2.2.1 u.2.2.2.2.2.2.2.1 u.2.2.2.2.2.2.2.2.1 u.2.2.2.2.2.2.2.2.2.1 u.2.2.2.2.2.2.2.2.2.2.1 u.2.2.2.2.2.2.2.2.2.2.2 :: X) t) A) 0 0 A := by
  refine Met.ofW (cc := cX8_runnerLeaps) (maxL := 3) (ret := (some .int)) (by decide) rfl ?_
  intro p e s m args below meth c s₁ B hml hv
  obtain ⟨rfl, hsz9, hP, hK, hD, hN⟩ := hv
  have hx := B.exec
  have hb := B.bytes
  have hr := B.returns
  have hts := atoms_spec (ws := wsX8_runnerLeaps) B.pre
  have hown : s.vm.findClass RX8 = some m.cls := findClass_of_methodNamed B.named
  have hlocks := B.notSynchronized
  have CF : CallFix p m c cX8_runnerLeaps 3 s _ wsX8_runnerLeaps RX8 := ⟨hx, hb, hml, hown, hts⟩
  have hA : ∀ q : Nat, s.heap.size ≤ q → A q := hsz9
  have hS : va_S A s.heap s.heap [] := va_S.rf
  have hiX0 : ∀ w ∈ u_ws RX0 TX0 7, w ∈ wsX8_runnerLeaps := fun _ h => List.mem_cons_of_mem _ (List.mem_append_right _ (h))
  have hiX7 : ∀ w ∈ u_ws RX7 TX7 7, w ∈ wsX8_runnerLeaps := fun _ h => List.mem_cons_of_mem _ (List.mem_append_left _ (List.mem_append_right _ (h)))
  have hiX8 : ∀ w ∈ u_ws RX8 TX8 10, w ∈ wsX8_runnerLeaps := fun _ h => List.mem_cons_of_mem _ (List.mem_append_left _ (List.mem_append_left _ (List.mem_append_right _ (h))))
  have hl := lv_entry ([.ref xo, .int xd, .int (nI ak)]) (n := 3) (Nat.le_of_ble_eq_true rfl)
  rw [lg_entry_eq]
  generalize (lg_sl ([.ref xo, .int xd, .int (nI ak)]) ++ List.replicate (3 - (lg_sl ([.ref xo, .int xd, .int (nI ak)])).length) Slot.unset).toArray = ls at hl ⊢
  have hl : lv_has ls 3 [(0, .ref xo), (1, .int xd), (2, .int (nI ak))] := hl
  show W p l e ({ frames := 3, cells := 0, slots := 0, locals := 71 } : Room) s m (([.ref xo, .int xd, .int (nI ak)] : List Value).toArray) below meth c s.heap [] 0 0 (MQ below (va_Qi (fun (r : Int32) (u : Int32 × Int32 × Int32 × Int32 × Int32 × Int32 × Int32 × Int32 × Int32 × Int32 × Int32 × Int32) => r = (leapK S xd ak).2 ∧ AbsX (leapK S xd ak).1 wbl wse u.1 u.2.1 u.2.2.1 u.2.2.2.1 u.2.2.2.2.1) (fun (u : Int32 × Int32 × Int32 × Int32 × Int32 × Int32 × Int32 × Int32 × Int32 × Int32 × Int32 × Int32) t => wq D A (oX8 xo w hi sn tx f mm re ro (bI mk) (bI rk) :: oX7 w wb ws u.1 u.2.1 u.2.2.1 u.2.2.2.1 u.2.2.2.2.1 :: aI cI wb 10 wbl :: aI cI ws 3 wse :: oX0 f u.2.2.2.2.2.1 u.2.2.2.2.2.2.1 u.2.2.2.2.2.2.2.1 u.2.2.2.2.2.2.2.2.1 u.2.2.2.2.2.2.2.2.2.1 u.2.2.2.2.2.2.2.2.2.2.1 u.2.2.2.2.2.2.2.2.2.2.2 :: X) t) A) (([.ref xo, .int xd, .int (nI ak)] : List Value).toArray) s 0 0 A) (F0 m 0 ls [])
  refine lv_iload_n hx hb dX8_runnerLeaps_0 rfl (lv_at hl 2 rfl) ?_
  refine lv_aload_n hx hb dX8_runnerLeaps_1 rfl (lv_at hl 0 rfl) ?_
  refine va_get (D := D) (ci := 8) (v := .ref w) (C := RX8) (T := TX8) (N := 10) hx hb hts hiX8 hown hK hP 0 rfl rfl 0 (by decide) (hts (.fieldLink RX8 12 "LedgeLeaps" "world" "LLedgeLeaps$World;") (List.mem_of_getElem? (i := 1) rfl)) (fun _ h9 => h9) rfl dX8_runnerLeaps_2 ?_
  refine lv_aload_n hx hb dX8_runnerLeaps_5 rfl (lv_at hl 0 rfl) ?_
  refine va_get (D := D) (ci := 8) (v := .ref w) (C := RX8) (T := TX8) (N := 10) hx hb hts hiX8 hown hK hP 0 rfl rfl 0 (by decide) (hts (.fieldLink RX8 12 "LedgeLeaps" "world" "LLedgeLeaps$World;") (List.mem_of_getElem? (i := 1) rfl)) (fun _ h9 => h9) rfl dX8_runnerLeaps_6 ?_
  refine va_get (D := D) (ci := 7) (v := .int wc) (C := RX7) (T := TX7) (N := 7) hx hb hts hiX7 hown hK hP 1 rfl rfl 2 (by decide) (hts (.fieldLink RX8 137 "LedgeLeaps$World" "column" "I") (List.mem_of_getElem? (i := 2) rfl)) (fun _ h9 => h9) rfl dX8_runnerLeaps_9 ?_
  refine lv_aload_n hx hb dX8_runnerLeaps_12 rfl (lv_at hl 0 rfl) ?_
  refine va_get (D := D) (ci := 8) (v := .ref w) (C := RX8) (T := TX8) (N := 10) hx hb hts hiX8 hown hK hP 0 rfl rfl 0 (by decide) (hts (.fieldLink RX8 12 "LedgeLeaps" "world" "LLedgeLeaps$World;") (List.mem_of_getElem? (i := 1) rfl)) (fun _ h9 => h9) rfl dX8_runnerLeaps_13 ?_
  refine va_get (D := D) (ci := 7) (v := .int wr) (C := RX7) (T := TX7) (N := 7) hx hb hts hiX7 hown hK hP 1 rfl rfl 3 (by decide) (hts (.fieldLink RX8 140 "LedgeLeaps$World" "row" "I") (List.mem_of_getElem? (i := 3) rfl)) (fun _ h9 => h9) rfl dX8_runnerLeaps_16 ?_
  refine lv_iload_n hx hb dX8_runnerLeaps_19 rfl (lv_at hl 1 rfl) ?_
  refine cV_i CF hK hN hA hS (cut_of 5 [1, 2, 0, 3, 4] hP hD rfl rfl rfl) (m_greatestRunUp l D cI cZ cW cJ A (oX8 xo w hi sn tx f mm re ro (bI mk) (bI rk) :: aI cI ws 3 wse :: oX0 f fc fr ft fo fm fs fi :: X) w wb ws wc wr wl ww wf wbl wc wr xd) (cwV 3 hts gX8_runnerLeaps_X7_greatestRunUp rfl rfl rfl (by decide +kernel) ⟨Nat.le_of_ble_eq_true rfl, Nat.le_of_ble_eq_true rfl⟩) (As := [.int wc, .int wr, .int xd]) (rest := [.int (nI ak)]) (ci := 7) (q0 := 0) rfl rfl rfl hl.1 rfl (Nat.le_of_ble_eq_true rfl) dX8_runnerLeaps_20 ⟨Nat.le_of_ble_eq_true rfl, Nat.le_of_ble_eq_true rfl⟩ (fun r_20 _ H locs hq hP hD hS => ?_)
  have hq : r_20 = grB (blkX wbl) wc wr xd := hq
  subst hq
  have hP : va_P D vwCl (oX8 xo w hi sn tx f mm re ro (bI mk) (bI rk) :: oX7 w wb ws wc wr wl ww wf :: aI cI wb 10 wbl :: aI cI ws 3 wse :: oX0 f fc fr ft fo fm fs fi :: X) H := pm_P hP 5 [2, 0, 1, 3, 4] rfl
  have hD : va_D A (oX8 xo w hi sn tx f mm re ro (bI mk) (bI rk) :: oX7 w wb ws wc wr wl ww wf :: aI cI wb 10 wbl :: aI cI ws 3 wse :: oX0 f fc fr ft fo fm fs fi :: X) := pm_D hD 5 [2, 0, 1, 3, 4] rfl rfl rfl
  refine lv_icmp_le (tgt := 41) hx hb dX8_runnerLeaps_23 (by decide) (fun c_23 => ?_) (fun c_23 => ?_)
  · refine lv_aload_n hx hb dX8_runnerLeaps_41 rfl (lv_at hl 0 rfl) ?_
    refine va_get (D := D) (ci := 8) (v := .ref f) (C := RX8) (T := TX8) (N := 10) hx hb hts hiX8 hown hK hP 0 rfl rfl 4 (by decide) (hts (.fieldLink RX8 40 "LedgeLeaps" "flight" "LLedgeLeaps$Flight;") (List.mem_of_getElem? (i := 5) rfl)) (fun _ h9 => h9) rfl dX8_runnerLeaps_42 ?_
    refine lv_aload_n hx hb dX8_runnerLeaps_45 rfl (lv_at hl 0 rfl) ?_
    refine va_get (D := D) (ci := 8) (v := .ref w) (C := RX8) (T := TX8) (N := 10) hx hb hts hiX8 hown hK hP 0 rfl rfl 0 (by decide) (hts (.fieldLink RX8 12 "LedgeLeaps" "world" "LLedgeLeaps$World;") (List.mem_of_getElem? (i := 1) rfl)) (fun _ h9 => h9) rfl dX8_runnerLeaps_46 ?_
    refine lv_aload_n hx hb dX8_runnerLeaps_49 rfl (lv_at hl 0 rfl) ?_
    refine va_get (D := D) (ci := 8) (v := .ref w) (C := RX8) (T := TX8) (N := 10) hx hb hts hiX8 hown hK hP 0 rfl rfl 0 (by decide) (hts (.fieldLink RX8 12 "LedgeLeaps" "world" "LLedgeLeaps$World;") (List.mem_of_getElem? (i := 1) rfl)) (fun _ h9 => h9) rfl dX8_runnerLeaps_50 ?_
    refine va_get (D := D) (ci := 7) (v := .int wc) (C := RX7) (T := TX7) (N := 7) hx hb hts hiX7 hown hK hP 1 rfl rfl 2 (by decide) (hts (.fieldLink RX8 137 "LedgeLeaps$World" "column" "I") (List.mem_of_getElem? (i := 2) rfl)) (fun _ h9 => h9) rfl dX8_runnerLeaps_53 ?_
    refine lv_aload_n hx hb dX8_runnerLeaps_56 rfl (lv_at hl 0 rfl) ?_
    refine va_get (D := D) (ci := 8) (v := .ref w) (C := RX8) (T := TX8) (N := 10) hx hb hts hiX8 hown hK hP 0 rfl rfl 0 (by decide) (hts (.fieldLink RX8 12 "LedgeLeaps" "world" "LLedgeLeaps$World;") (List.mem_of_getElem? (i := 1) rfl)) (fun _ h9 => h9) rfl dX8_runnerLeaps_57 ?_
    refine va_get (D := D) (ci := 7) (v := .int wr) (C := RX7) (T := TX7) (N := 7) hx hb hts hiX7 hown hK hP 1 rfl rfl 3 (by decide) (hts (.fieldLink RX8 140 "LedgeLeaps$World" "row" "I") (List.mem_of_getElem? (i := 3) rfl)) (fun _ h9 => h9) rfl dX8_runnerLeaps_60 ?_
    refine lv_iload_n hx hb dX8_runnerLeaps_63 rfl (lv_at hl 1 rfl) ?_
    refine lv_iload_n hx hb dX8_runnerLeaps_64 rfl (lv_at hl 2 rfl) ?_
    refine cV_v CF hK hN hA hS (cut_of 5 [4, 1, 2, 3, 0] hP hD rfl rfl rfl) (m_fly l D cI cZ cW cJ A (oX8 xo w hi sn tx f mm re ro (bI mk) (bI rk) :: X) f fc fr ft fo fm fs fi w wb ws wc wr wl ww wf wbl wse wc wr xd (nI ak)) (cwV 5 hts gX8_runnerLeaps_X0_fly rfl rfl rfl (by decide +kernel) ⟨Nat.le_of_ble_eq_true rfl, Nat.le_of_ble_eq_true rfl⟩) (As := [.ref w, .int wc, .int wr, .int xd, .int (nI ak)]) (rest := []) (ci := 0) (q0 := 0) rfl rfl rfl hl.1 rfl (Nat.le_of_ble_eq_true rfl) dX8_runnerLeaps_65 ⟨Nat.le_of_ble_eq_true rfl, Nat.le_of_ble_eq_true rfl⟩ (fun u_65 H locs hq hP hD hS => ?_)
    have hq_65 : u_65 = flyF (blkX wbl) xd (wse 1) (wse 2) 100 wc wr 0 wr false ((nI ak) + 1) (wse 0) := hq
    have hP : va_P D vwCl (oX8 xo w hi sn tx f mm re ro (bI mk) (bI rk) :: oX7 w wb ws wc wr wl ww wf :: aI cI wb 10 wbl :: aI cI ws 3 wse :: oX0 f u_65.1 u_65.2.1 u_65.2.2.1 u_65.2.2.2.1 (bI u_65.2.2.2.2.1) u_65.2.2.2.2.2.1 u_65.2.2.2.2.2.2 :: X) H := pm_P hP 5 [4, 1, 2, 3, 0] rfl
    have hD : va_D A (oX8 xo w hi sn tx f mm re ro (bI mk) (bI rk) :: oX7 w wb ws wc wr wl ww wf :: aI cI wb 10 wbl :: aI cI ws 3 wse :: oX0 f u_65.1 u_65.2.1 u_65.2.2.1 u_65.2.2.2.1 (bI u_65.2.2.2.2.1) u_65.2.2.2.2.2.1 u_65.2.2.2.2.2.2 :: X) := pm_D hD 5 [4, 1, 2, 3, 0] rfl rfl rfl
    refine lv_aload_n hx hb dX8_runnerLeaps_68 rfl (lv_at hl 0 rfl) ?_
    refine va_get (D := D) (ci := 8) (v := .ref w) (C := RX8) (T := TX8) (N := 10) hx hb hts hiX8 hown hK hP 0 rfl rfl 0 (by decide) (hts (.fieldLink RX8 12 "LedgeLeaps" "world" "LLedgeLeaps$World;") (List.mem_of_getElem? (i := 1) rfl)) (fun _ h9 => h9) rfl dX8_runnerLeaps_69 ?_
    refine lv_aload_n hx hb dX8_runnerLeaps_72 rfl (lv_at hl 0 rfl) ?_
    refine va_get (D := D) (ci := 8) (v := .ref f) (C := RX8) (T := TX8) (N := 10) hx hb hts hiX8 hown hK hP 0 rfl rfl 4 (by decide) (hts (.fieldLink RX8 40 "LedgeLeaps" "flight" "LLedgeLeaps$Flight;") (List.mem_of_getElem? (i := 5) rfl)) (fun _ h9 => h9) rfl dX8_runnerLeaps_73 ?_
    refine va_get (D := D) (ci := 0) (v := .int u_65.1) (C := RX0) (T := TX0) (N := 7) hx hb hts hiX0 hown hK hP 4 rfl rfl 0 (by decide) (hts (.fieldLink RX8 333 "LedgeLeaps$Flight" "column" "I") (List.mem_of_getElem? (i := 6) rfl)) (fun _ h9 => h9) rfl dX8_runnerLeaps_76 ?_
    refine va_put (D := D) (ci := 7) (v := .int u_65.1) (ty := .int) (C := RX7) (T := TX7) (N := 7) hx hb hts hiX7 tyX7 tyX7_ok nmX7 hown hK hP hD hS 1 rfl rfl 2 (by decide) (hts (.fieldLink RX8 137 "LedgeLeaps$World" "column" "I") (List.mem_of_getElem? (i := 2) rfl)) (fun _ h9 => h9) rfl (by decide +kernel) rfl rfl (Nat.le_of_ble_eq_true rfl) dX8_runnerLeaps_79 (fun H locs hP hD hS => ?_)
    have hP : va_P D vwCl (oX8 xo w hi sn tx f mm re ro (bI mk) (bI rk) :: oX7 w wb ws u_65.1 wr wl ww wf :: aI cI wb 10 wbl :: aI cI ws 3 wse :: oX0 f u_65.1 u_65.2.1 u_65.2.2.1 u_65.2.2.2.1 (bI u_65.2.2.2.2.1) u_65.2.2.2.2.2.1 u_65.2.2.2.2.2.2 :: X) H := hP
    have hD : va_D A (oX8 xo w hi sn tx f mm re ro (bI mk) (bI rk) :: oX7 w wb ws u_65.1 wr wl ww wf :: aI cI wb 10 wbl :: aI cI ws 3 wse :: oX0 f u_65.1 u_65.2.1 u_65.2.2.1 u_65.2.2.2.1 (bI u_65.2.2.2.2.1) u_65.2.2.2.2.2.1 u_65.2.2.2.2.2.2 :: X) := hD
    refine lv_aload_n hx hb dX8_runnerLeaps_82 rfl (lv_at hl 0 rfl) ?_
    refine va_get (D := D) (ci := 8) (v := .ref w) (C := RX8) (T := TX8) (N := 10) hx hb hts hiX8 hown hK hP 0 rfl rfl 0 (by decide) (hts (.fieldLink RX8 12 "LedgeLeaps" "world" "LLedgeLeaps$World;") (List.mem_of_getElem? (i := 1) rfl)) (fun _ h9 => h9) rfl dX8_runnerLeaps_83 ?_
    refine lv_aload_n hx hb dX8_runnerLeaps_86 rfl (lv_at hl 0 rfl) ?_
    refine va_get (D := D) (ci := 8) (v := .ref f) (C := RX8) (T := TX8) (N := 10) hx hb hts hiX8 hown hK hP 0 rfl rfl 4 (by decide) (hts (.fieldLink RX8 40 "LedgeLeaps" "flight" "LLedgeLeaps$Flight;") (List.mem_of_getElem? (i := 5) rfl)) (fun _ h9 => h9) rfl dX8_runnerLeaps_87 ?_
    refine va_get (D := D) (ci := 0) (v := .int u_65.2.1) (C := RX0) (T := TX0) (N := 7) hx hb hts hiX0 hown hK hP 4 rfl rfl 1 (by decide) (hts (.fieldLink RX8 334 "LedgeLeaps$Flight" "row" "I") (List.mem_of_getElem? (i := 7) rfl)) (fun _ h9 => h9) rfl dX8_runnerLeaps_90 ?_
    refine va_put (D := D) (ci := 7) (v := .int u_65.2.1) (ty := .int) (C := RX7) (T := TX7) (N := 7) hx hb hts hiX7 tyX7 tyX7_ok nmX7 hown hK hP hD hS 1 rfl rfl 3 (by decide) (hts (.fieldLink RX8 140 "LedgeLeaps$World" "row" "I") (List.mem_of_getElem? (i := 3) rfl)) (fun _ h9 => h9) rfl (by decide +kernel) rfl rfl (Nat.le_of_ble_eq_true rfl) dX8_runnerLeaps_93 (fun H locs hP hD hS => ?_)
    have hP : va_P D vwCl (oX8 xo w hi sn tx f mm re ro (bI mk) (bI rk) :: oX7 w wb ws u_65.1 u_65.2.1 wl ww wf :: aI cI wb 10 wbl :: aI cI ws 3 wse :: oX0 f u_65.1 u_65.2.1 u_65.2.2.1 u_65.2.2.2.1 (bI u_65.2.2.2.2.1) u_65.2.2.2.2.2.1 u_65.2.2.2.2.2.2 :: X) H := hP
    have hD : va_D A (oX8 xo w hi sn tx f mm re ro (bI mk) (bI rk) :: oX7 w wb ws u_65.1 u_65.2.1 wl ww wf :: aI cI wb 10 wbl :: aI cI ws 3 wse :: oX0 f u_65.1 u_65.2.1 u_65.2.2.1 u_65.2.2.2.1 (bI u_65.2.2.2.2.1) u_65.2.2.2.2.2.1 u_65.2.2.2.2.2.2 :: X) := hD
    refine lv_aload_n hx hb dX8_runnerLeaps_96 rfl (lv_at hl 0 rfl) ?_
    refine va_get (D := D) (ci := 8) (v := .ref w) (C := RX8) (T := TX8) (N := 10) hx hb hts hiX8 hown hK hP 0 rfl rfl 0 (by decide) (hts (.fieldLink RX8 12 "LedgeLeaps" "world" "LLedgeLeaps$World;") (List.mem_of_getElem? (i := 1) rfl)) (fun _ h9 => h9) rfl dX8_runnerLeaps_97 ?_
    refine lv_dup hx hb dX8_runnerLeaps_100 rfl ?_
    refine va_get (D := D) (ci := 7) (v := .int wl) (C := RX7) (T := TX7) (N := 7) hx hb hts hiX7 hown hK hP 1 rfl rfl 4 (by decide) (hts (.fieldLink RX8 335 "LedgeLeaps$World" "leaps" "I") (List.mem_of_getElem? (i := 8) rfl)) (fun _ h9 => h9) rfl dX8_runnerLeaps_101 ?_
    refine lv_iconst (v := 1) hx hb dX8_runnerLeaps_104 (by decide) ?_
    refine lv_iadd hx hb dX8_runnerLeaps_105 ?_
    refine va_put (D := D) (ci := 7) (v := .int (wl + 1)) (ty := .int) (C := RX7) (T := TX7) (N := 7) hx hb hts hiX7 tyX7 tyX7_ok nmX7 hown hK hP hD hS 1 rfl rfl 4 (by decide) (hts (.fieldLink RX8 335 "LedgeLeaps$World" "leaps" "I") (List.mem_of_getElem? (i := 8) rfl)) (fun _ h9 => h9) rfl (by decide +kernel) rfl rfl (Nat.le_of_ble_eq_true rfl) dX8_runnerLeaps_106 (fun H locs hP hD hS => ?_)
    have hP : va_P D vwCl (oX8 xo w hi sn tx f mm re ro (bI mk) (bI rk) :: oX7 w wb ws u_65.1 u_65.2.1 (wl + 1) ww wf :: aI cI wb 10 wbl :: aI cI ws 3 wse :: oX0 f u_65.1 u_65.2.1 u_65.2.2.1 u_65.2.2.2.1 (bI u_65.2.2.2.2.1) u_65.2.2.2.2.2.1 u_65.2.2.2.2.2.2 :: X) H := hP
    have hD : va_D A (oX8 xo w hi sn tx f mm re ro (bI mk) (bI rk) :: oX7 w wb ws u_65.1 u_65.2.1 (wl + 1) ww wf :: aI cI wb 10 wbl :: aI cI ws 3 wse :: oX0 f u_65.1 u_65.2.1 u_65.2.2.1 u_65.2.2.2.1 (bI u_65.2.2.2.2.1) u_65.2.2.2.2.2.1 u_65.2.2.2.2.2.2 :: X) := hD
    refine lv_aload_n hx hb dX8_runnerLeaps_109 rfl (lv_at hl 0 rfl) ?_
    refine va_get (D := D) (ci := 8) (v := .ref f) (C := RX8) (T := TX8) (N := 10) hx hb hts hiX8 hown hK hP 0 rfl rfl 4 (by decide) (hts (.fieldLink RX8 40 "LedgeLeaps" "flight" "LLedgeLeaps$Flight;") (List.mem_of_getElem? (i := 5) rfl)) (fun _ h9 => h9) rfl dX8_runnerLeaps_110 ?_
    refine va_get (D := D) (ci := 0) (v := .int (bI u_65.2.2.2.2.1)) (C := RX0) (T := TX0) (N := 7) hx hb hts hiX0 hown hK hP 4 rfl rfl 4 (by decide) (hts (.fieldLink RX8 338 "LedgeLeaps$Flight" "wallIsMet" "Z") (List.mem_of_getElem? (i := 9) rfl)) (fun _ h9 => h9) rfl dX8_runnerLeaps_113 ?_
    refine lv_if_eq (tgt := 132) hx hb dX8_runnerLeaps_116 (by decide) (fun c_116 => ?_) (fun c_116 => ?_)
    · refine lv_bipush (v := 100) hx hb dX8_runnerLeaps_132 (by decide) ?_
      refine lv_aload_n hx hb dX8_runnerLeaps_134 rfl (lv_at hl 0 rfl) ?_
      refine va_get (D := D) (ci := 8) (v := .ref w) (C := RX8) (T := TX8) (N := 10) hx hb hts hiX8 hown hK hP 0 rfl rfl 0 (by decide) (hts (.fieldLink RX8 12 "LedgeLeaps" "world" "LLedgeLeaps$World;") (List.mem_of_getElem? (i := 1) rfl)) (fun _ h9 => h9) rfl dX8_runnerLeaps_135 ?_
      refine va_get (D := D) (ci := 7) (v := .int u_65.2.1) (C := RX7) (T := TX7) (N := 7) hx hb hts hiX7 hown hK hP 1 rfl rfl 3 (by decide) (hts (.fieldLink RX8 140 "LedgeLeaps$World" "row" "I") (List.mem_of_getElem? (i := 3) rfl)) (fun _ h9 => h9) rfl dX8_runnerLeaps_138 ?_
      refine lv_imul hx hb dX8_runnerLeaps_141 ?_
      refine lv_aload_n hx hb dX8_runnerLeaps_142 rfl (lv_at hl 0 rfl) ?_
      refine va_get (D := D) (ci := 8) (v := .ref w) (C := RX8) (T := TX8) (N := 10) hx hb hts hiX8 hown hK hP 0 rfl rfl 0 (by decide) (hts (.fieldLink RX8 12 "LedgeLeaps" "world" "LLedgeLeaps$World;") (List.mem_of_getElem? (i := 1) rfl)) (fun _ h9 => h9) rfl dX8_runnerLeaps_143 ?_
      refine va_get (D := D) (ci := 7) (v := .int u_65.1) (C := RX7) (T := TX7) (N := 7) hx hb hts hiX7 hown hK hP 1 rfl rfl 2 (by decide) (hts (.fieldLink RX8 137 "LedgeLeaps$World" "column" "I") (List.mem_of_getElem? (i := 2) rfl)) (fun _ h9 => h9) rfl dX8_runnerLeaps_146 ?_
      refine lv_iadd hx hb dX8_runnerLeaps_149 ?_
      have h9 := hS0.leap hWf (Int32.not_lt.mpr c_23) hq_65
      rw [if_neg (by rw [bf_c c_116]; decide)] at h9
      exact W.iret (v := ((100 * u_65.2.1) + u_65.1)) hx hb hr (fun t9 ht9 hW9 => ⟨⟨((100 * u_65.2.1) + u_65.1), (u_65.1, u_65.2.1, (wl + 1), ww, wf, u_65.1, u_65.2.1, u_65.2.2.1, u_65.2.2.2.1, bI u_65.2.2.2.2.1, u_65.2.2.2.2.2.1, u_65.2.2.2.2.2.2), rfl, ⟨h9.1.symm, h9.2⟩, by rw [ht9]; exact hP, hD⟩, hS.F ht9⟩) hS.2.2 dX8_runnerLeaps_150
    · refine lv_aload_n hx hb dX8_runnerLeaps_119 rfl (lv_at hl 0 rfl) ?_
      refine va_get (D := D) (ci := 8) (v := .ref w) (C := RX8) (T := TX8) (N := 10) hx hb hts hiX8 hown hK hP 0 rfl rfl 0 (by decide) (hts (.fieldLink RX8 12 "LedgeLeaps" "world" "LLedgeLeaps$World;") (List.mem_of_getElem? (i := 1) rfl)) (fun _ h9 => h9) rfl dX8_runnerLeaps_120 ?_
      refine lv_dup hx hb dX8_runnerLeaps_123 rfl ?_
      refine va_get (D := D) (ci := 7) (v := .int ww) (C := RX7) (T := TX7) (N := 7) hx hb hts hiX7 hown hK hP 1 rfl rfl 5 (by decide) (hts (.fieldLink RX8 341 "LedgeLeaps$World" "wallLeaps" "I") (List.mem_of_getElem? (i := 10) rfl)) (fun _ h9 => h9) rfl dX8_runnerLeaps_124 ?_
      refine lv_iconst (v := 1) hx hb dX8_runnerLeaps_127 (by decide) ?_
      refine lv_iadd hx hb dX8_runnerLeaps_128 ?_
      refine va_put (D := D) (ci := 7) (v := .int (ww + 1)) (ty := .int) (C := RX7) (T := TX7) (N := 7) hx hb hts hiX7 tyX7 tyX7_ok nmX7 hown hK hP hD hS 1 rfl rfl 5 (by decide) (hts (.fieldLink RX8 341 "LedgeLeaps$World" "wallLeaps" "I") (List.mem_of_getElem? (i := 10) rfl)) (fun _ h9 => h9) rfl (by decide +kernel) rfl rfl (Nat.le_of_ble_eq_true rfl) dX8_runnerLeaps_129 (fun H locs hP hD hS => ?_)
      have hP : va_P D vwCl (oX8 xo w hi sn tx f mm re ro (bI mk) (bI rk) :: oX7 w wb ws u_65.1 u_65.2.1 (wl + 1) (ww + 1) wf :: aI cI wb 10 wbl :: aI cI ws 3 wse :: oX0 f u_65.1 u_65.2.1 u_65.2.2.1 u_65.2.2.2.1 (bI u_65.2.2.2.2.1) u_65.2.2.2.2.2.1 u_65.2.2.2.2.2.2 :: X) H := hP
      have hD : va_D A (oX8 xo w hi sn tx f mm re ro (bI mk) (bI rk) :: oX7 w wb ws u_65.1 u_65.2.1 (wl + 1) (ww + 1) wf :: aI cI wb 10 wbl :: aI cI ws 3 wse :: oX0 f u_65.1 u_65.2.1 u_65.2.2.1 u_65.2.2.2.1 (bI u_65.2.2.2.2.1) u_65.2.2.2.2.2.1 u_65.2.2.2.2.2.2 :: X) := hD
      refine lv_bipush (v := 100) hx hb dX8_runnerLeaps_132 (by decide) ?_
      refine lv_aload_n hx hb dX8_runnerLeaps_134 rfl (lv_at hl 0 rfl) ?_
      refine va_get (D := D) (ci := 8) (v := .ref w) (C := RX8) (T := TX8) (N := 10) hx hb hts hiX8 hown hK hP 0 rfl rfl 0 (by decide) (hts (.fieldLink RX8 12 "LedgeLeaps" "world" "LLedgeLeaps$World;") (List.mem_of_getElem? (i := 1) rfl)) (fun _ h9 => h9) rfl dX8_runnerLeaps_135 ?_
      refine va_get (D := D) (ci := 7) (v := .int u_65.2.1) (C := RX7) (T := TX7) (N := 7) hx hb hts hiX7 hown hK hP 1 rfl rfl 3 (by decide) (hts (.fieldLink RX8 140 "LedgeLeaps$World" "row" "I") (List.mem_of_getElem? (i := 3) rfl)) (fun _ h9 => h9) rfl dX8_runnerLeaps_138 ?_
      refine lv_imul hx hb dX8_runnerLeaps_141 ?_
      refine lv_aload_n hx hb dX8_runnerLeaps_142 rfl (lv_at hl 0 rfl) ?_
      refine va_get (D := D) (ci := 8) (v := .ref w) (C := RX8) (T := TX8) (N := 10) hx hb hts hiX8 hown hK hP 0 rfl rfl 0 (by decide) (hts (.fieldLink RX8 12 "LedgeLeaps" "world" "LLedgeLeaps$World;") (List.mem_of_getElem? (i := 1) rfl)) (fun _ h9 => h9) rfl dX8_runnerLeaps_143 ?_
      refine va_get (D := D) (ci := 7) (v := .int u_65.1) (C := RX7) (T := TX7) (N := 7) hx hb hts hiX7 hown hK hP 1 rfl rfl 2 (by decide) (hts (.fieldLink RX8 137 "LedgeLeaps$World" "column" "I") (List.mem_of_getElem? (i := 2) rfl)) (fun _ h9 => h9) rfl dX8_runnerLeaps_146 ?_
      refine lv_iadd hx hb dX8_runnerLeaps_149 ?_
      have h9 := hS0.leap hWf (Int32.not_lt.mpr c_23) hq_65
      rw [if_pos (bt_c c_116)] at h9
      exact W.iret (v := ((100 * u_65.2.1) + u_65.1)) hx hb hr (fun t9 ht9 hW9 => ⟨⟨((100 * u_65.2.1) + u_65.1), (u_65.1, u_65.2.1, (wl + 1), (ww + 1), wf, u_65.1, u_65.2.1, u_65.2.2.1, u_65.2.2.2.1, bI u_65.2.2.2.2.1, u_65.2.2.2.2.2.1, u_65.2.2.2.2.2.2), rfl, ⟨h9.1.symm, h9.2⟩, by rw [ht9]; exact hP, hD⟩, hS.F ht9⟩) hS.2.2 dX8_runnerLeaps_150
  · refine lv_aload_n hx hb dX8_runnerLeaps_26 rfl (lv_at hl 0 rfl) ?_
    refine va_get (D := D) (ci := 8) (v := .ref w) (C := RX8) (T := TX8) (N := 10) hx hb hts hiX8 hown hK hP 0 rfl rfl 0 (by decide) (hts (.fieldLink RX8 12 "LedgeLeaps" "world" "LLedgeLeaps$World;") (List.mem_of_getElem? (i := 1) rfl)) (fun _ h9 => h9) rfl dX8_runnerLeaps_27 ?_
    refine lv_dup hx hb dX8_runnerLeaps_30 rfl ?_
    refine va_get (D := D) (ci := 7) (v := .int wf) (C := RX7) (T := TX7) (N := 7) hx hb hts hiX7 hown hK hP 1 rfl rfl 6 (by decide) (hts (.fieldLink RX8 133 "LedgeLeaps$World" "refused" "I") (List.mem_of_getElem? (i := 4) rfl)) (fun _ h9 => h9) rfl dX8_runnerLeaps_31 ?_
    refine lv_iconst (v := 1) hx hb dX8_runnerLeaps_34 (by decide) ?_
    refine lv_iadd hx hb dX8_runnerLeaps_35 ?_
    refine va_put (D := D) (ci := 7) (v := .int (wf + 1)) (ty := .int) (C := RX7) (T := TX7) (N := 7) hx hb hts hiX7 tyX7 tyX7_ok nmX7 hown hK hP hD hS 1 rfl rfl 6 (by decide) (hts (.fieldLink RX8 133 "LedgeLeaps$World" "refused" "I") (List.mem_of_getElem? (i := 4) rfl)) (fun _ h9 => h9) rfl (by decide +kernel) rfl rfl (Nat.le_of_ble_eq_true rfl) dX8_runnerLeaps_36 (fun H locs hP hD hS => ?_)
    have hP : va_P D vwCl (oX8 xo w hi sn tx f mm re ro (bI mk) (bI rk) :: oX7 w wb ws wc wr wl ww (wf + 1) :: aI cI wb 10 wbl :: aI cI ws 3 wse :: oX0 f fc fr ft fo fm fs fi :: X) H := hP
    have hD : va_D A (oX8 xo w hi sn tx f mm re ro (bI mk) (bI rk) :: oX7 w wb ws wc wr wl ww (wf + 1) :: aI cI wb 10 wbl :: aI cI ws 3 wse :: oX0 f fc fr ft fo fm fs fi :: X) := hD
    refine lv_iconst (v := (-1)) hx hb dX8_runnerLeaps_39 (by decide) ?_
    exact W.iret (v := (-1)) hx hb hr (fun t9 ht9 hW9 => ⟨⟨(-1), (wc, wr, wl, ww, (wf + 1), fc, fr, ft, fo, fm, fs, fi), rfl, by rw [hS0.nleap (Int32.not_le.mp c_23)]; exact ⟨rfl, hS0.ref⟩, by rw [ht9]; exact hP, hD⟩, hS.F ht9⟩) hS.2.2 dX8_runnerLeaps_40
