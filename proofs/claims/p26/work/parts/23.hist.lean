set_option maxHeartbeats 4000000 in
set_option maxRecDepth 100000 in
theorem m_becomeLike (l : Launch) (D : va_G) (cI cZ cW cJ : ClassId) (A : Nat → Prop) (X : va_W) (w wb ws : Nat) (wc wr wl ww wf : Int32) (wbl wse : Nat → Int32) (v vb vs : Nat) (vc vr vl vw vf : Int32) (vbl vse : Nat → Int32) : Met l yX7_becomeLike wsX7_becomeLike ({ frames := 1, cells := 0, slots := 0, locals := 40 }) (va_Pc [.ref w, .ref v] (wd D (tyL cI cZ cW cJ) A (oX7 w wb ws wc wr wl ww wf :: aI cI wb 10 wbl :: aI cI ws 3 wse :: oX7 v vb vs vc vr vl vw vf :: aI cI vb 10 vbl :: aI cI vs 3 vse :: X))) (va_Qv (fun (u : (Nat → Int32) × (Nat → Int32)) => (∀ j, j < 10 → u.1 j = vbl j) ∧ (∀ j, j < 3 → u.2 j = vse j)) (fun (u : (Nat → Int32) × (Nat → Int32)) t => wq D A (oX7 w wb ws vc vr vl vw vf :: aI cI wb 10 u.1 :: aI cI ws 3 u.2 :: oX7 v vb vs vc vr vl vw vf :: aI cI vb 10 vbl :: aI cI vs 3 vse :: X) t) A) 0 0 A := by
  refine Met.ofW (cc := cX7_becomeLike) (maxL := 2) (ret := none) (by decide) rfl ?_
  intro p e s m args below meth c s₁ B hml hv
  obtain ⟨rfl, hsz9, hP, hK, hD, hN⟩ := hv
  have hx := B.exec
  have hb := B.bytes
  have hr := B.returns
  have hts := atoms_spec (ws := wsX7_becomeLike) B.pre
  have hown : s.vm.findClass RX7 = some m.cls := findClass_of_methodNamed B.named
  have hlocks := B.notSynchronized
  have CF : CallFix p m c cX7_becomeLike 2 s _ wsX7_becomeLike RX7 := ⟨hx, hb, hml, hown, hts⟩
  have hA : ∀ q : Nat, s.heap.size ≤ q → A q := hsz9
  have hS : va_S A s.heap s.heap [] := va_S.rf
  have hiX7 : ∀ w ∈ u_ws RX7 TX7 7, w ∈ wsX7_becomeLike := fun _ h => List.mem_cons_of_mem _ (List.mem_append_right _ (h))
  have hl := lv_entry ([.ref w, .ref v]) (n := 2) (Nat.le_of_ble_eq_true rfl)
  rw [lg_entry_eq]
  generalize (lg_sl ([.ref w, .ref v]) ++ List.replicate (2 - (lg_sl ([.ref w, .ref v])).length) Slot.unset).toArray = ls at hl ⊢
  have hl : lv_has ls 2 [(0, .ref w), (1, .ref v)] := hl
  show W p l e ({ frames := 1, cells := 0, slots := 0, locals := 40 } : Room) s m (([.ref w, .ref v] : List Value).toArray) below meth c s.heap [] 0 0 (MQ below (va_Qv (fun (u : (Nat → Int32) × (Nat → Int32)) => (∀ j, j < 10 → u.1 j = vbl j) ∧ (∀ j, j < 3 → u.2 j = vse j)) (fun (u : (Nat → Int32) × (Nat → Int32)) t => wq D A (oX7 w wb ws vc vr vl vw vf :: aI cI wb 10 u.1 :: aI cI ws 3 u.2 :: oX7 v vb vs vc vr vl vw vf :: aI cI vb 10 vbl :: aI cI vs 3 vse :: X) t) A) (([.ref w, .ref v] : List Value).toArray) s 0 0 A) (F0 m 0 ls [])
  refine lv_aload_n hx hb dX7_becomeLike_0 rfl (lv_at hl 1 rfl) ?_
  refine va_get (D := D) (ci := 7) (v := .ref vb) (C := RX7) (T := TX7) (N := 7) hx hb hts hiX7 hown hK hP 3 rfl rfl 0 (by decide) (hts (.fieldLink RX7 9 "LedgeLeaps$World" "blocks" "[I") (List.mem_of_getElem? (i := 1) rfl)) (fun _ h9 => h9) rfl dX7_becomeLike_1 ?_
  refine lv_iconst (v := 0) hx hb dX7_becomeLike_4 (by decide) ?_
  refine lv_aload_n hx hb dX7_becomeLike_5 rfl (lv_at hl 0 rfl) ?_
  refine va_get (D := D) (ci := 7) (v := .ref wb) (C := RX7) (T := TX7) (N := 7) hx hb hts hiX7 hown hK hP 0 rfl rfl 0 (by decide) (hts (.fieldLink RX7 9 "LedgeLeaps$World" "blocks" "[I") (List.mem_of_getElem? (i := 1) rfl)) (fun _ h9 => h9) rfl dX7_becomeLike_6 ?_
  refine lv_iconst (v := 0) hx hb dX7_becomeLike_9 (by decide) ?_
  refine lv_bipush (v := 10) hx hb dX7_becomeLike_10 (by decide) ?_
  refine va_copyi hx hb (hml.trans hl.1.symm) hown (hts (.methodLink RX7 18 arraycopyName) (List.mem_of_getElem? (i := 2) rfl)) (hts (.native arraycopyName) (List.mem_of_getElem? (i := 3) rfl)) (hts (.static arraycopyName) (List.mem_of_getElem? (i := 4) rfl)) (hts (.initialized "java/lang/System") (List.mem_of_getElem? (i := 5) rfl)) hK hP hD hS 4 1 0 0 rfl rfl rfl rfl rfl (by decide) (by decide) (by decide) (by decide) (by decide) (fun _ _ => rfl) (Nat.le_of_ble_eq_true rfl) (Nat.le_of_ble_eq_true rfl) dX7_becomeLike_12 (fun H locs hP hD hS => ?_)
  have hP : va_P D vwCl (oX7 w wb ws wc wr wl ww wf :: aI cI wb 10 (va_cpy vbl wbl (0 : Int32).toNatClampNeg (0 : Int32).toNatClampNeg (10 : Int32).toNatClampNeg) :: aI cI ws 3 wse :: oX7 v vb vs vc vr vl vw vf :: aI cI vb 10 vbl :: aI cI vs 3 vse :: X) H := hP
  have hD : va_D A (oX7 w wb ws wc wr wl ww wf :: aI cI wb 10 (va_cpy vbl wbl (0 : Int32).toNatClampNeg (0 : Int32).toNatClampNeg (10 : Int32).toNatClampNeg) :: aI cI ws 3 wse :: oX7 v vb vs vc vr vl vw vf :: aI cI vb 10 vbl :: aI cI vs 3 vse :: X) := hD
  refine lv_aload_n hx hb dX7_becomeLike_15 rfl (lv_at hl 1 rfl) ?_
  refine va_get (D := D) (ci := 7) (v := .ref vs) (C := RX7) (T := TX7) (N := 7) hx hb hts hiX7 hown hK hP 3 rfl rfl 1 (by decide) (hts (.fieldLink RX7 15 "LedgeLeaps$World" "settings" "[I") (List.mem_of_getElem? (i := 6) rfl)) (fun _ h9 => h9) rfl dX7_becomeLike_16 ?_
  refine lv_iconst (v := 0) hx hb dX7_becomeLike_19 (by decide) ?_
  refine lv_aload_n hx hb dX7_becomeLike_20 rfl (lv_at hl 0 rfl) ?_
  refine va_get (D := D) (ci := 7) (v := .ref ws) (C := RX7) (T := TX7) (N := 7) hx hb hts hiX7 hown hK hP 0 rfl rfl 1 (by decide) (hts (.fieldLink RX7 15 "LedgeLeaps$World" "settings" "[I") (List.mem_of_getElem? (i := 6) rfl)) (fun _ h9 => h9) rfl dX7_becomeLike_21 ?_
  refine lv_iconst (v := 0) hx hb dX7_becomeLike_24 (by decide) ?_
  refine lv_iconst (v := 3) hx hb dX7_becomeLike_25 (by decide) ?_
  refine va_copyi hx hb (hml.trans hl.1.symm) hown (hts (.methodLink RX7 18 arraycopyName) (List.mem_of_getElem? (i := 2) rfl)) (hts (.native arraycopyName) (List.mem_of_getElem? (i := 3) rfl)) (hts (.static arraycopyName) (List.mem_of_getElem? (i := 4) rfl)) (hts (.initialized "java/lang/System") (List.mem_of_getElem? (i := 5) rfl)) hK hP hD hS 5 2 0 0 rfl rfl rfl rfl rfl (by decide) (by decide) (by decide) (by decide) (by decide) (fun _ _ => rfl) (Nat.le_of_ble_eq_true rfl) (Nat.le_of_ble_eq_true rfl) dX7_becomeLike_26 (fun H locs hP hD hS => ?_)
  have hP : va_P D vwCl (oX7 w wb ws wc wr wl ww wf :: aI cI wb 10 (va_cpy vbl wbl (0 : Int32).toNatClampNeg (0 : Int32).toNatClampNeg (10 : Int32).toNatClampNeg) :: aI cI ws 3 (va_cpy vse wse (0 : Int32).toNatClampNeg (0 : Int32).toNatClampNeg (3 : Int32).toNatClampNeg) :: oX7 v vb vs vc vr vl vw vf :: aI cI vb 10 vbl :: aI cI vs 3 vse :: X) H := hP
  have hD : va_D A (oX7 w wb ws wc wr wl ww wf :: aI cI wb 10 (va_cpy vbl wbl (0 : Int32).toNatClampNeg (0 : Int32).toNatClampNeg (10 : Int32).toNatClampNeg) :: aI cI ws 3 (va_cpy vse wse (0 : Int32).toNatClampNeg (0 : Int32).toNatClampNeg (3 : Int32).toNatClampNeg) :: oX7 v vb vs vc vr vl vw vf :: aI cI vb 10 vbl :: aI cI vs 3 vse :: X) := hD
  refine lv_aload_n hx hb dX7_becomeLike_29 rfl (lv_at hl 0 rfl) ?_
  refine lv_aload_n hx hb dX7_becomeLike_30 rfl (lv_at hl 1 rfl) ?_
  refine va_get (D := D) (ci := 7) (v := .int vc) (C := RX7) (T := TX7) (N := 7) hx hb hts hiX7 hown hK hP 3 rfl rfl 2 (by decide) (hts (.fieldLink RX7 24 "LedgeLeaps$World" "column" "I") (List.mem_of_getElem? (i := 7) rfl)) (fun _ h9 => h9) rfl dX7_becomeLike_31 ?_
  refine va_put (D := D) (ci := 7) (v := .int vc) (ty := .int) (C := RX7) (T := TX7) (N := 7) hx hb hts hiX7 tyX7 tyX7_ok nmX7 hown hK hP hD hS 0 rfl rfl 2 (by decide) (hts (.fieldLink RX7 24 "LedgeLeaps$World" "column" "I") (List.mem_of_getElem? (i := 7) rfl)) (fun _ h9 => h9) rfl (by decide +kernel) rfl rfl (Nat.le_of_ble_eq_true rfl) dX7_becomeLike_34 (fun H locs hP hD hS => ?_)
  have hP : va_P D vwCl (oX7 w wb ws vc wr wl ww wf :: aI cI wb 10 (va_cpy vbl wbl (0 : Int32).toNatClampNeg (0 : Int32).toNatClampNeg (10 : Int32).toNatClampNeg) :: aI cI ws 3 (va_cpy vse wse (0 : Int32).toNatClampNeg (0 : Int32).toNatClampNeg (3 : Int32).toNatClampNeg) :: oX7 v vb vs vc vr vl vw vf :: aI cI vb 10 vbl :: aI cI vs 3 vse :: X) H := hP
  have hD : va_D A (oX7 w wb ws vc wr wl ww wf :: aI cI wb 10 (va_cpy vbl wbl (0 : Int32).toNatClampNeg (0 : Int32).toNatClampNeg (10 : Int32).toNatClampNeg) :: aI cI ws 3 (va_cpy vse wse (0 : Int32).toNatClampNeg (0 : Int32).toNatClampNeg (3 : Int32).toNatClampNeg) :: oX7 v vb vs vc vr vl vw vf :: aI cI vb 10 vbl :: aI cI vs 3 vse :: X) := hD
  refine lv_aload_n hx hb dX7_becomeLike_37 rfl (lv_at hl 0 rfl) ?_
  refine lv_aload_n hx hb dX7_becomeLike_38 rfl (lv_at hl 1 rfl) ?_
  refine va_get (D := D) (ci := 7) (v := .int vr) (C := RX7) (T := TX7) (N := 7) hx hb hts hiX7 hown hK hP 3 rfl rfl 3 (by decide) (hts (.fieldLink RX7 28 "LedgeLeaps$World" "row" "I") (List.mem_of_getElem? (i := 8) rfl)) (fun _ h9 => h9) rfl dX7_becomeLike_39 ?_
  refine va_put (D := D) (ci := 7) (v := .int vr) (ty := .int) (C := RX7) (T := TX7) (N := 7) hx hb hts hiX7 tyX7 tyX7_ok nmX7 hown hK hP hD hS 0 rfl rfl 3 (by decide) (hts (.fieldLink RX7 28 "LedgeLeaps$World" "row" "I") (List.mem_of_getElem? (i := 8) rfl)) (fun _ h9 => h9) rfl (by decide +kernel) rfl rfl (Nat.le_of_ble_eq_true rfl) dX7_becomeLike_42 (fun H locs hP hD hS => ?_)
  have hP : va_P D vwCl (oX7 w wb ws vc vr wl ww wf :: aI cI wb 10 (va_cpy vbl wbl (0 : Int32).toNatClampNeg (0 : Int32).toNatClampNeg (10 : Int32).toNatClampNeg) :: aI cI ws 3 (va_cpy vse wse (0 : Int32).toNatClampNeg (0 : Int32).toNatClampNeg (3 : Int32).toNatClampNeg) :: oX7 v vb vs vc vr vl vw vf :: aI cI vb 10 vbl :: aI cI vs 3 vse :: X) H := hP
  have hD : va_D A (oX7 w wb ws vc vr wl ww wf :: aI cI wb 10 (va_cpy vbl wbl (0 : Int32).toNatClampNeg (0 : Int32).toNatClampNeg (10 : Int32).toNatClampNeg) :: aI cI ws 3 (va_cpy vse wse (0 : Int32).toNatClampNeg (0 : Int32).toNatClampNeg (3 : Int32).toNatClampNeg) :: oX7 v vb vs vc vr vl vw vf :: aI cI vb 10 vbl :: aI cI vs 3 vse :: X) := hD
  refine lv_aload_n hx hb dX7_becomeLike_45 rfl (lv_at hl 0 rfl) ?_
  refine lv_aload_n hx hb dX7_becomeLike_46 rfl (lv_at hl 1 rfl) ?_
  refine va_get (D := D) (ci := 7) (v := .int vl) (C := RX7) (T := TX7) (N := 7) hx hb hts hiX7 hown hK hP 3 rfl rfl 4 (by decide) (hts (.fieldLink RX7 31 "LedgeLeaps$World" "leaps" "I") (List.mem_of_getElem? (i := 9) rfl)) (fun _ h9 => h9) rfl dX7_becomeLike_47 ?_
  refine va_put (D := D) (ci := 7) (v := .int vl) (ty := .int) (C := RX7) (T := TX7) (N := 7) hx hb hts hiX7 tyX7 tyX7_ok nmX7 hown hK hP hD hS 0 rfl rfl 4 (by decide) (hts (.fieldLink RX7 31 "LedgeLeaps$World" "leaps" "I") (List.mem_of_getElem? (i := 9) rfl)) (fun _ h9 => h9) rfl (by decide +kernel) rfl rfl (Nat.le_of_ble_eq_true rfl) dX7_becomeLike_50 (fun H locs hP hD hS => ?_)
  have hP : va_P D vwCl (oX7 w wb ws vc vr vl ww wf :: aI cI wb 10 (va_cpy vbl wbl (0 : Int32).toNatClampNeg (0 : Int32).toNatClampNeg (10 : Int32).toNatClampNeg) :: aI cI ws 3 (va_cpy vse wse (0 : Int32).toNatClampNeg (0 : Int32).toNatClampNeg (3 : Int32).toNatClampNeg) :: oX7 v vb vs vc vr vl vw vf :: aI cI vb 10 vbl :: aI cI vs 3 vse :: X) H := hP
  have hD : va_D A (oX7 w wb ws vc vr vl ww wf :: aI cI wb 10 (va_cpy vbl wbl (0 : Int32).toNatClampNeg (0 : Int32).toNatClampNeg (10 : Int32).toNatClampNeg) :: aI cI ws 3 (va_cpy vse wse (0 : Int32).toNatClampNeg (0 : Int32).toNatClampNeg (3 : Int32).toNatClampNeg) :: oX7 v vb vs vc vr vl vw vf :: aI cI vb 10 vbl :: aI cI vs 3 vse :: X) := hD
  refine lv_aload_n hx hb dX7_becomeLike_53 rfl (lv_at hl 0 rfl) ?_
  refine lv_aload_n hx hb dX7_becomeLike_54 rfl (lv_at hl 1 rfl) ?_
  refine va_get (D := D) (ci := 7) (v := .int vw) (C := RX7) (T := TX7) (N := 7) hx hb hts hiX7 hown hK hP 3 rfl rfl 5 (by decide) (hts (.fieldLink RX7 34 "LedgeLeaps$World" "wallLeaps" "I") (List.mem_of_getElem? (i := 10) rfl)) (fun _ h9 => h9) rfl dX7_becomeLike_55 ?_
  refine va_put (D := D) (ci := 7) (v := .int vw) (ty := .int) (C := RX7) (T := TX7) (N := 7) hx hb hts hiX7 tyX7 tyX7_ok nmX7 hown hK hP hD hS 0 rfl rfl 5 (by decide) (hts (.fieldLink RX7 34 "LedgeLeaps$World" "wallLeaps" "I") (List.mem_of_getElem? (i := 10) rfl)) (fun _ h9 => h9) rfl (by decide +kernel) rfl rfl (Nat.le_of_ble_eq_true rfl) dX7_becomeLike_58 (fun H locs hP hD hS => ?_)
  have hP : va_P D vwCl (oX7 w wb ws vc vr vl vw wf :: aI cI wb 10 (va_cpy vbl wbl (0 : Int32).toNatClampNeg (0 : Int32).toNatClampNeg (10 : Int32).toNatClampNeg) :: aI cI ws 3 (va_cpy vse wse (0 : Int32).toNatClampNeg (0 : Int32).toNatClampNeg (3 : Int32).toNatClampNeg) :: oX7 v vb vs vc vr vl vw vf :: aI cI vb 10 vbl :: aI cI vs 3 vse :: X) H := hP
  have hD : va_D A (oX7 w wb ws vc vr vl vw wf :: aI cI wb 10 (va_cpy vbl wbl (0 : Int32).toNatClampNeg (0 : Int32).toNatClampNeg (10 : Int32).toNatClampNeg) :: aI cI ws 3 (va_cpy vse wse (0 : Int32).toNatClampNeg (0 : Int32).toNatClampNeg (3 : Int32).toNatClampNeg) :: oX7 v vb vs vc vr vl vw vf :: aI cI vb 10 vbl :: aI cI vs 3 vse :: X) := hD
  refine lv_aload_n hx hb dX7_becomeLike_61 rfl (lv_at hl 0 rfl) ?_
  refine lv_aload_n hx hb dX7_becomeLike_62 rfl (lv_at hl 1 rfl) ?_
  refine va_get (D := D) (ci := 7) (v := .int vf) (C := RX7) (T := TX7) (N := 7) hx hb hts hiX7 hown hK hP 3 rfl rfl 6 (by decide) (hts (.fieldLink RX7 37 "LedgeLeaps$World" "refused" "I") (List.mem_of_getElem? (i := 11) rfl)) (fun _ h9 => h9) rfl dX7_becomeLike_63 ?_
  refine va_put (D := D) (ci := 7) (v := .int vf) (ty := .int) (C := RX7) (T := TX7) (N := 7) hx hb hts hiX7 tyX7 tyX7_ok nmX7 hown hK hP hD hS 0 rfl rfl 6 (by decide) (hts (.fieldLink RX7 37 "LedgeLeaps$World" "refused" "I") (List.mem_of_getElem? (i := 11) rfl)) (fun _ h9 => h9) rfl (by decide +kernel) rfl rfl (Nat.le_of_ble_eq_true rfl) dX7_becomeLike_66 (fun H locs hP hD hS => ?_)
  have hP : va_P D vwCl (oX7 w wb ws vc vr vl vw vf :: aI cI wb 10 (va_cpy vbl wbl (0 : Int32).toNatClampNeg (0 : Int32).toNatClampNeg (10 : Int32).toNatClampNeg) :: aI cI ws 3 (va_cpy vse wse (0 : Int32).toNatClampNeg (0 : Int32).toNatClampNeg (3 : Int32).toNatClampNeg) :: oX7 v vb vs vc vr vl vw vf :: aI cI vb 10 vbl :: aI cI vs 3 vse :: X) H := hP
  have hD : va_D A (oX7 w wb ws vc vr vl vw vf :: aI cI wb 10 (va_cpy vbl wbl (0 : Int32).toNatClampNeg (0 : Int32).toNatClampNeg (10 : Int32).toNatClampNeg) :: aI cI ws 3 (va_cpy vse wse (0 : Int32).toNatClampNeg (0 : Int32).toNatClampNeg (3 : Int32).toNatClampNeg) :: oX7 v vb vs vc vr vl vw vf :: aI cI vb 10 vbl :: aI cI vs 3 vse :: X) := hD
  exact W.vret hx hb hr (fun t9 ht9 hW9 => ⟨⟨(va_cpy vbl wbl 0 0 10, va_cpy vse wse 0 0 3), rfl, ⟨fun j hj => cpy_lt hj, fun j hj => cpy_lt hj⟩, by rw [ht9]; exact hP, hD⟩, hS.F ht9⟩) hS.2.2 dX7_becomeLike_69
set_option maxHeartbeats 4000000 in
set_option maxRecDepth 100000 in
theorem m_dropOldest (l : Launch) (D : va_G) (cI cZ cW cJ : ClassId) (A : Nat → Prop) (X : va_W) (hi hv : Nat) (hn : Int32) (svf : Nat → Option Nat) (pa pb pc : Nat → Nat) (zc zr zl zw zf : Nat → Int32) (hsv : ∀ i, i < 6 → svf i = some (pa i)) : Met l yX1_dropOldest wsX1_dropOldest ({ frames := 0, cells := 0, slots := 0, locals := 0 }) (va_Pc [.ref hi] (wd D (tyL cI cZ cW cJ) A (oX1 hi hn hv :: aW cW hv 6 svf :: oX7 (pa 0) (pb 0) (pc 0) (zc 0) (zr 0) (zl 0) (zw 0) (zf 0) :: oX7 (pa 1) (pb 1) (pc 1) (zc 1) (zr 1) (zl 1) (zw 1) (zf 1) :: oX7 (pa 2) (pb 2) (pc 2) (zc 2) (zr 2) (zl 2) (zw 2) (zf 2) :: oX7 (pa 3) (pb 3) (pc 3) (zc 3) (zr 3) (zl 3) (zw 3) (zf 3) :: oX7 (pa 4) (pb 4) (pc 4) (zc 4) (zr 4) (zl 4) (zw 4) (zf 4) :: oX7 (pa 5) (pb 5) (pc 5) (zc 5) (zr 5) (zl 5) (zw 5) (zf 5) :: X))) (va_Qv (fun (u : Nat → Option Nat) => (∀ i, i < 5 → u i = some (pa (i + 1))) ∧ u 5 = some (pa 0)) (fun (u : Nat → Option Nat) t => wq D A (oX1 hi 5 hv :: aW cW hv 6 u :: oX7 (pa 0) (pb 0) (pc 0) (zc 0) (zr 0) (zl 0) (zw 0) (zf 0) :: oX7 (pa 1) (pb 1) (pc 1) (zc 1) (zr 1) (zl 1) (zw 1) (zf 1) :: oX7 (pa 2) (pb 2) (pc 2) (zc 2) (zr 2) (zl 2) (zw 2) (zf 2) :: oX7 (pa 3) (pb 3) (pc 3) (zc 3) (zr 3) (zl 3) (zw 3) (zf 3) :: oX7 (pa 4) (pb 4) (pc 4) (zc 4) (zr 4) (zl 4) (zw 4) (zf 4) :: oX7 (pa 5) (pb 5) (pc 5) (zc 5) (zr 5) (zl 5) (zw 5) (zf 5) :: X) t) A) 0 0 A := by
  refine Met.ofW (cc := cX1_dropOldest) (maxL := 3) (ret := none) (by decide) rfl ?_
  intro p e s m args below meth c s₁ B hml hv
  obtain ⟨rfl, hsz9, hP, hK, hD, hN⟩ := hv
  have hx := B.exec
  have hb := B.bytes
  have hr := B.returns
  have hts := atoms_spec (ws := wsX1_dropOldest) B.pre
  have hown : s.vm.findClass RX1 = some m.cls := findClass_of_methodNamed B.named
  have hlocks := B.notSynchronized
  have CF : CallFix p m c cX1_dropOldest 3 s _ wsX1_dropOldest RX1 := ⟨hx, hb, hml, hown, hts⟩
  have hA : ∀ q : Nat, s.heap.size ≤ q → A q := hsz9
  have hS : va_S A s.heap s.heap [] := va_S.rf
  have hiX1 : ∀ w ∈ u_ws RX1 TX1 2, w ∈ wsX1_dropOldest := fun _ h => List.mem_cons_of_mem _ (List.mem_append_right _ (h))
  have hl := lv_entry ([.ref hi]) (n := 3) (Nat.le_of_ble_eq_true rfl)
  rw [lg_entry_eq]
  generalize (lg_sl ([.ref hi]) ++ List.replicate (3 - (lg_sl ([.ref hi])).length) Slot.unset).toArray = ls at hl ⊢
  have hl : lv_has ls 3 [(0, .ref hi)] := hl
  show W p l e ({ frames := 0, cells := 0, slots := 0, locals := 0 } : Room) s m (([.ref hi] : List Value).toArray) below meth c s.heap [] 0 0 (MQ below (va_Qv (fun (u : Nat → Option Nat) => (∀ i, i < 5 → u i = some (pa (i + 1))) ∧ u 5 = some (pa 0)) (fun (u : Nat → Option Nat) t => wq D A (oX1 hi 5 hv :: aW cW hv 6 u :: oX7 (pa 0) (pb 0) (pc 0) (zc 0) (zr 0) (zl 0) (zw 0) (zf 0) :: oX7 (pa 1) (pb 1) (pc 1) (zc 1) (zr 1) (zl 1) (zw 1) (zf 1) :: oX7 (pa 2) (pb 2) (pc 2) (zc 2) (zr 2) (zl 2) (zw 2) (zf 2) :: oX7 (pa 3) (pb 3) (pc 3) (zc 3) (zr 3) (zl 3) (zw 3) (zf 3) :: oX7 (pa 4) (pb 4) (pc 4) (zc 4) (zr 4) (zl 4) (zw 4) (zf 4) :: oX7 (pa 5) (pb 5) (pc 5) (zc 5) (zr 5) (zl 5) (zw 5) (zf 5) :: X) t) A) (([.ref hi] : List Value).toArray) s 0 0 A) (F0 m 0 ls [])
  refine lv_aload_n hx hb dX1_dropOldest_0 rfl (lv_at hl 0 rfl) ?_
  refine va_get (D := D) (ci := 1) (v := .ref hv) (C := RX1) (T := TX1) (N := 2) hx hb hts hiX1 hown hK hP 0 rfl rfl 1 (by decide) (hts (.fieldLink RX1 11 "LedgeLeaps$History" "saved" "[LLedgeLeaps$World;") (List.mem_of_getElem? (i := 1) rfl)) (fun _ h9 => h9) rfl dX1_dropOldest_1 ?_
  refine lv_iconst (v := 0) hx hb dX1_dropOldest_4 (by decide) ?_
  refine va_aldr (v := (pa 0)) hx hb hK hP 1 2 rfl rfl (show ¬ ((0 : Int32) < 0 ∨ 6 ≤ (0 : Int32).toNatClampNeg) by decide) (hsv 0 (by decide)) dX1_dropOldest_5 ?_
  refine lv_astore_n (lv' := [(1, .ref (pa 0)), (0, .ref hi)]) hx hb dX1_dropOldest_6 rfl hl (by decide) rfl (fun ls hl => ?_)
  refine lv_iconst (v := 1) hx hb dX1_dropOldest_7 (by decide) ?_
  refine lv_istore_n (lv' := [(2, .int 1), (1, .ref (pa 0)), (0, .ref hi)]) hx hb dX1_dropOldest_8 rfl hl (by decide) rfl (fun ls hl => ?_)
  refine lv_iload_n hx hb dX1_dropOldest_9 rfl (lv_at hl 0 rfl) ?_
  refine lv_bipush (v := 6) hx hb dX1_dropOldest_10 (by decide) ?_
  have c_12 : ¬ (6 : Int32) ≤ 1 := by decide
  refine lv_icmp_ge (tgt := 35) hx hb dX1_dropOldest_12 (by decide) (fun q => absurd q c_12) (fun _ => ?_)
  refine lv_aload_n hx hb dX1_dropOldest_15 rfl (lv_at hl 2 rfl) ?_
  refine va_get (D := D) (ci := 1) (v := .ref hv) (C := RX1) (T := TX1) (N := 2) hx hb hts hiX1 hown hK hP 0 rfl rfl 1 (by decide) (hts (.fieldLink RX1 11 "LedgeLeaps$History" "saved" "[LLedgeLeaps$World;") (List.mem_of_getElem? (i := 1) rfl)) (fun _ h9 => h9) rfl dX1_dropOldest_16 ?_
  refine lv_iload_n hx hb dX1_dropOldest_19 rfl (lv_at hl 0 rfl) ?_
  refine lv_iconst (v := 1) hx hb dX1_dropOldest_20 (by decide) ?_
  refine lv_isub hx hb dX1_dropOldest_21 ?_
  refine top_i (y := 0) (by decide) ?_
  refine lv_aload_n hx hb dX1_dropOldest_22 rfl (lv_at hl 2 rfl) ?_
  refine va_get (D := D) (ci := 1) (v := .ref hv) (C := RX1) (T := TX1) (N := 2) hx hb hts hiX1 hown hK hP 0 rfl rfl 1 (by decide) (hts (.fieldLink RX1 11 "LedgeLeaps$History" "saved" "[LLedgeLeaps$World;") (List.mem_of_getElem? (i := 1) rfl)) (fun _ h9 => h9) rfl dX1_dropOldest_23 ?_
  refine lv_iload_n hx hb dX1_dropOldest_26 rfl (lv_at hl 0 rfl) ?_
  refine va_aldr (v := (pa 1)) hx hb hK hP 1 2 rfl rfl (show ¬ ((1 : Int32) < 0 ∨ 6 ≤ (1 : Int32).toNatClampNeg) by decide) (hsv 1 (by decide)) dX1_dropOldest_27 ?_
  refine va_astq hx hb hK hP hD hS 1 2 3 7 rfl rfl rfl rfl (show ¬ ((0 : Int32) < 0 ∨ 6 ≤ (0 : Int32).toNatClampNeg) by decide) dX1_dropOldest_28 (fun H locs hP hD hS => ?_)
  have hP : va_P D vwCl (oX1 hi hn hv :: aW cW hv 6 (va_up svf 0 (some (pa 1))) :: oX7 (pa 0) (pb 0) (pc 0) (zc 0) (zr 0) (zl 0) (zw 0) (zf 0) :: oX7 (pa 1) (pb 1) (pc 1) (zc 1) (zr 1) (zl 1) (zw 1) (zf 1) :: oX7 (pa 2) (pb 2) (pc 2) (zc 2) (zr 2) (zl 2) (zw 2) (zf 2) :: oX7 (pa 3) (pb 3) (pc 3) (zc 3) (zr 3) (zl 3) (zw 3) (zf 3) :: oX7 (pa 4) (pb 4) (pc 4) (zc 4) (zr 4) (zl 4) (zw 4) (zf 4) :: oX7 (pa 5) (pb 5) (pc 5) (zc 5) (zr 5) (zl 5) (zw 5) (zf 5) :: X) H := hP
  have hD : va_D A (oX1 hi hn hv :: aW cW hv 6 (va_up svf 0 (some (pa 1))) :: oX7 (pa 0) (pb 0) (pc 0) (zc 0) (zr 0) (zl 0) (zw 0) (zf 0) :: oX7 (pa 1) (pb 1) (pc 1) (zc 1) (zr 1) (zl 1) (zw 1) (zf 1) :: oX7 (pa 2) (pb 2) (pc 2) (zc 2) (zr 2) (zl 2) (zw 2) (zf 2) :: oX7 (pa 3) (pb 3) (pc 3) (zc 3) (zr 3) (zl 3) (zw 3) (zf 3) :: oX7 (pa 4) (pb 4) (pc 4) (zc 4) (zr 4) (zl 4) (zw 4) (zf 4) :: oX7 (pa 5) (pb 5) (pc 5) (zc 5) (zr 5) (zl 5) (zw 5) (zf 5) :: X) := hD
  refine lv_iinc (v := 2) (lv' := [(2, .int 2), (1, .ref (pa 0)), (0, .ref hi)]) hx hb dX1_dropOldest_29 hl (k := 0) rfl (by decide) (by decide) rfl (fun ls hl => ?_)
  refine lv_goto (tgt := 9) hx hb dX1_dropOldest_32 (by decide) ?_
  refine lv_iload_n hx hb dX1_dropOldest_9 rfl (lv_at hl 0 rfl) ?_
  refine lv_bipush (v := 6) hx hb dX1_dropOldest_10 (by decide) ?_
  have c_12 : ¬ (6 : Int32) ≤ 2 := by decide
  refine lv_icmp_ge (tgt := 35) hx hb dX1_dropOldest_12 (by decide) (fun q => absurd q c_12) (fun _ => ?_)
  refine lv_aload_n hx hb dX1_dropOldest_15 rfl (lv_at hl 2 rfl) ?_
  refine va_get (D := D) (ci := 1) (v := .ref hv) (C := RX1) (T := TX1) (N := 2) hx hb hts hiX1 hown hK hP 0 rfl rfl 1 (by decide) (hts (.fieldLink RX1 11 "LedgeLeaps$History" "saved" "[LLedgeLeaps$World;") (List.mem_of_getElem? (i := 1) rfl)) (fun _ h9 => h9) rfl dX1_dropOldest_16 ?_
  refine lv_iload_n hx hb dX1_dropOldest_19 rfl (lv_at hl 0 rfl) ?_
  refine lv_iconst (v := 1) hx hb dX1_dropOldest_20 (by decide) ?_
  refine lv_isub hx hb dX1_dropOldest_21 ?_
  refine top_i (y := 1) (by decide) ?_
  refine lv_aload_n hx hb dX1_dropOldest_22 rfl (lv_at hl 2 rfl) ?_
  refine va_get (D := D) (ci := 1) (v := .ref hv) (C := RX1) (T := TX1) (N := 2) hx hb hts hiX1 hown hK hP 0 rfl rfl 1 (by decide) (hts (.fieldLink RX1 11 "LedgeLeaps$History" "saved" "[LLedgeLeaps$World;") (List.mem_of_getElem? (i := 1) rfl)) (fun _ h9 => h9) rfl dX1_dropOldest_23 ?_
  refine lv_iload_n hx hb dX1_dropOldest_26 rfl (lv_at hl 0 rfl) ?_
  refine va_aldr (v := (pa 2)) hx hb hK hP 1 2 rfl rfl (show ¬ ((2 : Int32) < 0 ∨ 6 ≤ (2 : Int32).toNatClampNeg) by decide) ((up_n (by decide)).trans (hsv 2 (by decide))) dX1_dropOldest_27 ?_
  refine va_astq hx hb hK hP hD hS 1 2 4 7 rfl rfl rfl rfl (show ¬ ((1 : Int32) < 0 ∨ 6 ≤ (1 : Int32).toNatClampNeg) by decide) dX1_dropOldest_28 (fun H locs hP hD hS => ?_)
  have hP : va_P D vwCl (oX1 hi hn hv :: aW cW hv 6 (va_up (va_up svf 0 (some (pa 1))) 1 (some (pa 2))) :: oX7 (pa 0) (pb 0) (pc 0) (zc 0) (zr 0) (zl 0) (zw 0) (zf 0) :: oX7 (pa 1) (pb 1) (pc 1) (zc 1) (zr 1) (zl 1) (zw 1) (zf 1) :: oX7 (pa 2) (pb 2) (pc 2) (zc 2) (zr 2) (zl 2) (zw 2) (zf 2) :: oX7 (pa 3) (pb 3) (pc 3) (zc 3) (zr 3) (zl 3) (zw 3) (zf 3) :: oX7 (pa 4) (pb 4) (pc 4) (zc 4) (zr 4) (zl 4) (zw 4) (zf 4) :: oX7 (pa 5) (pb 5) (pc 5) (zc 5) (zr 5) (zl 5) (zw 5) (zf 5) :: X) H := hP
  have hD : va_D A (oX1 hi hn hv :: aW cW hv 6 (va_up (va_up svf 0 (some (pa 1))) 1 (some (pa 2))) :: oX7 (pa 0) (pb 0) (pc 0) (zc 0) (zr 0) (zl 0) (zw 0) (zf 0) :: oX7 (pa 1) (pb 1) (pc 1) (zc 1) (zr 1) (zl 1) (zw 1) (zf 1) :: oX7 (pa 2) (pb 2) (pc 2) (zc 2) (zr 2) (zl 2) (zw 2) (zf 2) :: oX7 (pa 3) (pb 3) (pc 3) (zc 3) (zr 3) (zl 3) (zw 3) (zf 3) :: oX7 (pa 4) (pb 4) (pc 4) (zc 4) (zr 4) (zl 4) (zw 4) (zf 4) :: oX7 (pa 5) (pb 5) (pc 5) (zc 5) (zr 5) (zl 5) (zw 5) (zf 5) :: X) := hD
  refine lv_iinc (v := 3) (lv' := [(2, .int 3), (1, .ref (pa 0)), (0, .ref hi)]) hx hb dX1_dropOldest_29 hl (k := 0) rfl (by decide) (by decide) rfl (fun ls hl => ?_)
  refine lv_goto (tgt := 9) hx hb dX1_dropOldest_32 (by decide) ?_
  refine lv_iload_n hx hb dX1_dropOldest_9 rfl (lv_at hl 0 rfl) ?_
  refine lv_bipush (v := 6) hx hb dX1_dropOldest_10 (by decide) ?_
  have c_12 : ¬ (6 : Int32) ≤ 3 := by decide
  refine lv_icmp_ge (tgt := 35) hx hb dX1_dropOldest_12 (by decide) (fun q => absurd q c_12) (fun _ => ?_)
  refine lv_aload_n hx hb dX1_dropOldest_15 rfl (lv_at hl 2 rfl) ?_
  refine va_get (D := D) (ci := 1) (v := .ref hv) (C := RX1) (T := TX1) (N := 2) hx hb hts hiX1 hown hK hP 0 rfl rfl 1 (by decide) (hts (.fieldLink RX1 11 "LedgeLeaps$History" "saved" "[LLedgeLeaps$World;") (List.mem_of_getElem? (i := 1) rfl)) (fun _ h9 => h9) rfl dX1_dropOldest_16 ?_
  refine lv_iload_n hx hb dX1_dropOldest_19 rfl (lv_at hl 0 rfl) ?_
  refine lv_iconst (v := 1) hx hb dX1_dropOldest_20 (by decide) ?_
  refine lv_isub hx hb dX1_dropOldest_21 ?_
  refine top_i (y := 2) (by decide) ?_
  refine lv_aload_n hx hb dX1_dropOldest_22 rfl (lv_at hl 2 rfl) ?_
  refine va_get (D := D) (ci := 1) (v := .ref hv) (C := RX1) (T := TX1) (N := 2) hx hb hts hiX1 hown hK hP 0 rfl rfl 1 (by decide) (hts (.fieldLink RX1 11 "LedgeLeaps$History" "saved" "[LLedgeLeaps$World;") (List.mem_of_getElem? (i := 1) rfl)) (fun _ h9 => h9) rfl dX1_dropOldest_23 ?_
  refine lv_iload_n hx hb dX1_dropOldest_26 rfl (lv_at hl 0 rfl) ?_
  refine va_aldr (v := (pa 3)) hx hb hK hP 1 2 rfl rfl (show ¬ ((3 : Int32) < 0 ∨ 6 ≤ (3 : Int32).toNatClampNeg) by decide) ((up_n (by decide)).trans ((up_n (by decide)).trans (hsv 3 (by decide)))) dX1_dropOldest_27 ?_
  refine va_astq hx hb hK hP hD hS 1 2 5 7 rfl rfl rfl rfl (show ¬ ((2 : Int32) < 0 ∨ 6 ≤ (2 : Int32).toNatClampNeg) by decide) dX1_dropOldest_28 (fun H locs hP hD hS => ?_)
  have hP : va_P D vwCl (oX1 hi hn hv :: aW cW hv 6 (va_up (va_up (va_up svf 0 (some (pa 1))) 1 (some (pa 2))) 2 (some (pa 3))) :: oX7 (pa 0) (pb 0) (pc 0) (zc 0) (zr 0) (zl 0) (zw 0) (zf 0) :: oX7 (pa 1) (pb 1) (pc 1) (zc 1) (zr 1) (zl 1) (zw 1) (zf 1) :: oX7 (pa 2) (pb 2) (pc 2) (zc 2) (zr 2) (zl 2) (zw 2) (zf 2) :: oX7 (pa 3) (pb 3) (pc 3) (zc 3) (zr 3) (zl 3) (zw 3) (zf 3) :: oX7 (pa 4) (pb 4) (pc 4) (zc 4) (zr 4) (zl 4) (zw 4) (zf 4) :: oX7 (pa 5) (pb 5) (pc 5) (zc 5) (zr 5) (zl 5) (zw 5) (zf 5) :: X) H := hP
  have hD : va_D A (oX1 hi hn hv :: aW cW hv 6 (va_up (va_up (va_up svf 0 (some (pa 1))) 1 (some (pa 2))) 2 (some (pa 3))) :: oX7 (pa 0) (pb 0) (pc 0) (zc 0) (zr 0) (zl 0) (zw 0) (zf 0) :: oX7 (pa 1) (pb 1) (pc 1) (zc 1) (zr 1) (zl 1) (zw 1) (zf 1) :: oX7 (pa 2) (pb 2) (pc 2) (zc 2) (zr 2) (zl 2) (zw 2) (zf 2) :: oX7 (pa 3) (pb 3) (pc 3) (zc 3) (zr 3) (zl 3) (zw 3) (zf 3) :: oX7 (pa 4) (pb 4) (pc 4) (zc 4) (zr 4) (zl 4) (zw 4) (zf 4) :: oX7 (pa 5) (pb 5) (pc 5) (zc 5) (zr 5) (zl 5) (zw 5) (zf 5) :: X) := hD
  refine lv_iinc (v := 4) (lv' := [(2, .int 4), (1, .ref (pa 0)), (0, .ref hi)]) hx hb dX1_dropOldest_29 hl (k := 0) rfl (by decide) (by decide) rfl (fun ls hl => ?_)
  refine lv_goto (tgt := 9) hx hb dX1_dropOldest_32 (by decide) ?_
  refine lv_iload_n hx hb dX1_dropOldest_9 rfl (lv_at hl 0 rfl) ?_
  refine lv_bipush (v := 6) hx hb dX1_dropOldest_10 (by decide) ?_
  have c_12 : ¬ (6 : Int32) ≤ 4 := by decide
  refine lv_icmp_ge (tgt := 35) hx hb dX1_dropOldest_12 (by decide) (fun q => absurd q c_12) (fun _ => ?_)
  refine lv_aload_n hx hb dX1_dropOldest_15 rfl (lv_at hl 2 rfl) ?_
  refine va_get (D := D) (ci := 1) (v := .ref hv) (C := RX1) (T := TX1) (N := 2) hx hb hts hiX1 hown hK hP 0 rfl rfl 1 (by decide) (hts (.fieldLink RX1 11 "LedgeLeaps$History" "saved" "[LLedgeLeaps$World;") (List.mem_of_getElem? (i := 1) rfl)) (fun _ h9 => h9) rfl dX1_dropOldest_16 ?_
  refine lv_iload_n hx hb dX1_dropOldest_19 rfl (lv_at hl 0 rfl) ?_
  refine lv_iconst (v := 1) hx hb dX1_dropOldest_20 (by decide) ?_
  refine lv_isub hx hb dX1_dropOldest_21 ?_
  refine top_i (y := 3) (by decide) ?_
  refine lv_aload_n hx hb dX1_dropOldest_22 rfl (lv_at hl 2 rfl) ?_
  refine va_get (D := D) (ci := 1) (v := .ref hv) (C := RX1) (T := TX1) (N := 2) hx hb hts hiX1 hown hK hP 0 rfl rfl 1 (by decide) (hts (.fieldLink RX1 11 "LedgeLeaps$History" "saved" "[LLedgeLeaps$World;") (List.mem_of_getElem? (i := 1) rfl)) (fun _ h9 => h9) rfl dX1_dropOldest_23 ?_
  refine lv_iload_n hx hb dX1_dropOldest_26 rfl (lv_at hl 0 rfl) ?_
  refine va_aldr (v := (pa 4)) hx hb hK hP 1 2 rfl rfl (show ¬ ((4 : Int32) < 0 ∨ 6 ≤ (4 : Int32).toNatClampNeg) by decide) ((up_n (by decide)).trans ((up_n (by decide)).trans ((up_n (by decide)).trans (hsv 4 (by decide))))) dX1_dropOldest_27 ?_
  refine va_astq hx hb hK hP hD hS 1 2 6 7 rfl rfl rfl rfl (show ¬ ((3 : Int32) < 0 ∨ 6 ≤ (3 : Int32).toNatClampNeg) by decide) dX1_dropOldest_28 (fun H locs hP hD hS => ?_)
  have hP : va_P D vwCl (oX1 hi hn hv :: aW cW hv 6 (va_up (va_up (va_up (va_up svf 0 (some (pa 1))) 1 (some (pa 2))) 2 (some (pa 3))) 3 (some (pa 4))) :: oX7 (pa 0) (pb 0) (pc 0) (zc 0) (zr 0) (zl 0) (zw 0) (zf 0) :: oX7 (pa 1) (pb 1) (pc 1) (zc 1) (zr 1) (zl 1) (zw 1) (zf 1) :: oX7 (pa 2) (pb 2) (pc 2) (zc 2) (zr 2) (zl 2) (zw 2) (zf 2) :: oX7 (pa 3) (pb 3) (pc 3) (zc 3) (zr 3) (zl 3) (zw 3) (zf 3) :: oX7 (pa 4) (pb 4) (pc 4) (zc 4) (zr 4) (zl 4) (zw 4) (zf 4) :: oX7 (pa 5) (pb 5) (pc 5) (zc 5) (zr 5) (zl 5) (zw 5) (zf 5) :: X) H := hP
  have hD : va_D A (oX1 hi hn hv :: aW cW hv 6 (va_up (va_up (va_up (va_up svf 0 (some (pa 1))) 1 (some (pa 2))) 2 (some (pa 3))) 3 (some (pa 4))) :: oX7 (pa 0) (pb 0) (pc 0) (zc 0) (zr 0) (zl 0) (zw 0) (zf 0) :: oX7 (pa 1) (pb 1) (pc 1) (zc 1) (zr 1) (zl 1) (zw 1) (zf 1) :: oX7 (pa 2) (pb 2) (pc 2) (zc 2) (zr 2) (zl 2) (zw 2) (zf 2) :: oX7 (pa 3) (pb 3) (pc 3) (zc 3) (zr 3) (zl 3) (zw 3) (zf 3) :: oX7 (pa 4) (pb 4) (pc 4) (zc 4) (zr 4) (zl 4) (zw 4) (zf 4) :: oX7 (pa 5) (pb 5) (pc 5) (zc 5) (zr 5) (zl 5) (zw 5) (zf 5) :: X) := hD
  refine lv_iinc (v := 5) (lv' := [(2, .int 5), (1, .ref (pa 0)), (0, .ref hi)]) hx hb dX1_dropOldest_29 hl (k := 0) rfl (by decide) (by decide) rfl (fun ls hl => ?_)
  refine lv_goto (tgt := 9) hx hb dX1_dropOldest_32 (by decide) ?_
  refine lv_iload_n hx hb dX1_dropOldest_9 rfl (lv_at hl 0 rfl) ?_
  refine lv_bipush (v := 6) hx hb dX1_dropOldest_10 (by decide) ?_
  have c_12 : ¬ (6 : Int32) ≤ 5 := by decide
  refine lv_icmp_ge (tgt := 35) hx hb dX1_dropOldest_12 (by decide) (fun q => absurd q c_12) (fun _ => ?_)
  refine lv_aload_n hx hb dX1_dropOldest_15 rfl (lv_at hl 2 rfl) ?_
  refine va_get (D := D) (ci := 1) (v := .ref hv) (C := RX1) (T := TX1) (N := 2) hx hb hts hiX1 hown hK hP 0 rfl rfl 1 (by decide) (hts (.fieldLink RX1 11 "LedgeLeaps$History" "saved" "[LLedgeLeaps$World;") (List.mem_of_getElem? (i := 1) rfl)) (fun _ h9 => h9) rfl dX1_dropOldest_16 ?_
  refine lv_iload_n hx hb dX1_dropOldest_19 rfl (lv_at hl 0 rfl) ?_
  refine lv_iconst (v := 1) hx hb dX1_dropOldest_20 (by decide) ?_
  refine lv_isub hx hb dX1_dropOldest_21 ?_
  refine top_i (y := 4) (by decide) ?_
  refine lv_aload_n hx hb dX1_dropOldest_22 rfl (lv_at hl 2 rfl) ?_
  refine va_get (D := D) (ci := 1) (v := .ref hv) (C := RX1) (T := TX1) (N := 2) hx hb hts hiX1 hown hK hP 0 rfl rfl 1 (by decide) (hts (.fieldLink RX1 11 "LedgeLeaps$History" "saved" "[LLedgeLeaps$World;") (List.mem_of_getElem? (i := 1) rfl)) (fun _ h9 => h9) rfl dX1_dropOldest_23 ?_
  refine lv_iload_n hx hb dX1_dropOldest_26 rfl (lv_at hl 0 rfl) ?_
  refine va_aldr (v := (pa 5)) hx hb hK hP 1 2 rfl rfl (show ¬ ((5 : Int32) < 0 ∨ 6 ≤ (5 : Int32).toNatClampNeg) by decide) ((up_n (by decide)).trans ((up_n (by decide)).trans ((up_n (by decide)).trans ((up_n (by decide)).trans (hsv 5 (by decide)))))) dX1_dropOldest_27 ?_
  refine va_astq hx hb hK hP hD hS 1 2 7 7 rfl rfl rfl rfl (show ¬ ((4 : Int32) < 0 ∨ 6 ≤ (4 : Int32).toNatClampNeg) by decide) dX1_dropOldest_28 (fun H locs hP hD hS => ?_)
  have hP : va_P D vwCl (oX1 hi hn hv :: aW cW hv 6 (va_up (va_up (va_up (va_up (va_up svf 0 (some (pa 1))) 1 (some (pa 2))) 2 (some (pa 3))) 3 (some (pa 4))) 4 (some (pa 5))) :: oX7 (pa 0) (pb 0) (pc 0) (zc 0) (zr 0) (zl 0) (zw 0) (zf 0) :: oX7 (pa 1) (pb 1) (pc 1) (zc 1) (zr 1) (zl 1) (zw 1) (zf 1) :: oX7 (pa 2) (pb 2) (pc 2) (zc 2) (zr 2) (zl 2) (zw 2) (zf 2) :: oX7 (pa 3) (pb 3) (pc 3) (zc 3) (zr 3) (zl 3) (zw 3) (zf 3) :: oX7 (pa 4) (pb 4) (pc 4) (zc 4) (zr 4) (zl 4) (zw 4) (zf 4) :: oX7 (pa 5) (pb 5) (pc 5) (zc 5) (zr 5) (zl 5) (zw 5) (zf 5) :: X) H := hP
  have hD : va_D A (oX1 hi hn hv :: aW cW hv 6 (va_up (va_up (va_up (va_up (va_up svf 0 (some (pa 1))) 1 (some (pa 2))) 2 (some (pa 3))) 3 (some (pa 4))) 4 (some (pa 5))) :: oX7 (pa 0) (pb 0) (pc 0) (zc 0) (zr 0) (zl 0) (zw 0) (zf 0) :: oX7 (pa 1) (pb 1) (pc 1) (zc 1) (zr 1) (zl 1) (zw 1) (zf 1) :: oX7 (pa 2) (pb 2) (pc 2) (zc 2) (zr 2) (zl 2) (zw 2) (zf 2) :: oX7 (pa 3) (pb 3) (pc 3) (zc 3) (zr 3) (zl 3) (zw 3) (zf 3) :: oX7 (pa 4) (pb 4) (pc 4) (zc 4) (zr 4) (zl 4) (zw 4) (zf 4) :: oX7 (pa 5) (pb 5) (pc 5) (zc 5) (zr 5) (zl 5) (zw 5) (zf 5) :: X) := hD
  refine lv_iinc (v := 6) (lv' := [(2, .int 6), (1, .ref (pa 0)), (0, .ref hi)]) hx hb dX1_dropOldest_29 hl (k := 0) rfl (by decide) (by decide) rfl (fun ls hl => ?_)
  refine lv_goto (tgt := 9) hx hb dX1_dropOldest_32 (by decide) ?_
  refine lv_iload_n hx hb dX1_dropOldest_9 rfl (lv_at hl 0 rfl) ?_
  refine lv_bipush (v := 6) hx hb dX1_dropOldest_10 (by decide) ?_
  have c_12 : (6 : Int32) ≤ 6 := by decide
  refine lv_icmp_ge (tgt := 35) hx hb dX1_dropOldest_12 (by decide) (fun _ => ?_) (fun q => absurd c_12 q)
  refine lv_aload_n hx hb dX1_dropOldest_35 rfl (lv_at hl 2 rfl) ?_
  refine va_get (D := D) (ci := 1) (v := .ref hv) (C := RX1) (T := TX1) (N := 2) hx hb hts hiX1 hown hK hP 0 rfl rfl 1 (by decide) (hts (.fieldLink RX1 11 "LedgeLeaps$History" "saved" "[LLedgeLeaps$World;") (List.mem_of_getElem? (i := 1) rfl)) (fun _ h9 => h9) rfl dX1_dropOldest_36 ?_
  refine lv_iconst (v := 5) hx hb dX1_dropOldest_39 (by decide) ?_
  refine lv_aload_n hx hb dX1_dropOldest_40 rfl (lv_at hl 1 rfl) ?_
  refine va_astq hx hb hK hP hD hS 1 2 2 7 rfl rfl rfl rfl (show ¬ ((5 : Int32) < 0 ∨ 6 ≤ (5 : Int32).toNatClampNeg) by decide) dX1_dropOldest_41 (fun H locs hP hD hS => ?_)
  have hP : va_P D vwCl (oX1 hi hn hv :: aW cW hv 6 (va_up (va_up (va_up (va_up (va_up (va_up svf 0 (some (pa 1))) 1 (some (pa 2))) 2 (some (pa 3))) 3 (some (pa 4))) 4 (some (pa 5))) 5 (some (pa 0))) :: oX7 (pa 0) (pb 0) (pc 0) (zc 0) (zr 0) (zl 0) (zw 0) (zf 0) :: oX7 (pa 1) (pb 1) (pc 1) (zc 1) (zr 1) (zl 1) (zw 1) (zf 1) :: oX7 (pa 2) (pb 2) (pc 2) (zc 2) (zr 2) (zl 2) (zw 2) (zf 2) :: oX7 (pa 3) (pb 3) (pc 3) (zc 3) (zr 3) (zl 3) (zw 3) (zf 3) :: oX7 (pa 4) (pb 4) (pc 4) (zc 4) (zr 4) (zl 4) (zw 4) (zf 4) :: oX7 (pa 5) (pb 5) (pc 5) (zc 5) (zr 5) (zl 5) (zw 5) (zf 5) :: X) H := hP
  have hD : va_D A (oX1 hi hn hv :: aW cW hv 6 (va_up (va_up (va_up (va_up (va_up (va_up svf 0 (some (pa 1))) 1 (some (pa 2))) 2 (some (pa 3))) 3 (some (pa 4))) 4 (some (pa 5))) 5 (some (pa 0))) :: oX7 (pa 0) (pb 0) (pc 0) (zc 0) (zr 0) (zl 0) (zw 0) (zf 0) :: oX7 (pa 1) (pb 1) (pc 1) (zc 1) (zr 1) (zl 1) (zw 1) (zf 1) :: oX7 (pa 2) (pb 2) (pc 2) (zc 2) (zr 2) (zl 2) (zw 2) (zf 2) :: oX7 (pa 3) (pb 3) (pc 3) (zc 3) (zr 3) (zl 3) (zw 3) (zf 3) :: oX7 (pa 4) (pb 4) (pc 4) (zc 4) (zr 4) (zl 4) (zw 4) (zf 4) :: oX7 (pa 5) (pb 5) (pc 5) (zc 5) (zr 5) (zl 5) (zw 5) (zf 5) :: X) := hD
  refine lv_aload_n hx hb dX1_dropOldest_42 rfl (lv_at hl 2 rfl) ?_
  refine lv_iconst (v := 5) hx hb dX1_dropOldest_43 (by decide) ?_
  refine va_put (D := D) (ci := 1) (v := .int 5) (ty := .int) (C := RX1) (T := TX1) (N := 2) hx hb hts hiX1 tyX1 tyX1_ok nmX1 hown hK hP hD hS 0 rfl rfl 0 (by decide) (hts (.fieldLink RX1 18 "LedgeLeaps$History" "size" "I") (List.mem_of_getElem? (i := 2) rfl)) (fun _ h9 => h9) rfl (by decide +kernel) rfl rfl (Nat.le_of_ble_eq_true rfl) dX1_dropOldest_44 (fun H locs hP hD hS => ?_)
  have hP : va_P D vwCl (oX1 hi 5 hv :: aW cW hv 6 (va_up (va_up (va_up (va_up (va_up (va_up svf 0 (some (pa 1))) 1 (some (pa 2))) 2 (some (pa 3))) 3 (some (pa 4))) 4 (some (pa 5))) 5 (some (pa 0))) :: oX7 (pa 0) (pb 0) (pc 0) (zc 0) (zr 0) (zl 0) (zw 0) (zf 0) :: oX7 (pa 1) (pb 1) (pc 1) (zc 1) (zr 1) (zl 1) (zw 1) (zf 1) :: oX7 (pa 2) (pb 2) (pc 2) (zc 2) (zr 2) (zl 2) (zw 2) (zf 2) :: oX7 (pa 3) (pb 3) (pc 3) (zc 3) (zr 3) (zl 3) (zw 3) (zf 3) :: oX7 (pa 4) (pb 4) (pc 4) (zc 4) (zr 4) (zl 4) (zw 4) (zf 4) :: oX7 (pa 5) (pb 5) (pc 5) (zc 5) (zr 5) (zl 5) (zw 5) (zf 5) :: X) H := hP
  have hD : va_D A (oX1 hi 5 hv :: aW cW hv 6 (va_up (va_up (va_up (va_up (va_up (va_up svf 0 (some (pa 1))) 1 (some (pa 2))) 2 (some (pa 3))) 3 (some (pa 4))) 4 (some (pa 5))) 5 (some (pa 0))) :: oX7 (pa 0) (pb 0) (pc 0) (zc 0) (zr 0) (zl 0) (zw 0) (zf 0) :: oX7 (pa 1) (pb 1) (pc 1) (zc 1) (zr 1) (zl 1) (zw 1) (zf 1) :: oX7 (pa 2) (pb 2) (pc 2) (zc 2) (zr 2) (zl 2) (zw 2) (zf 2) :: oX7 (pa 3) (pb 3) (pc 3) (zc 3) (zr 3) (zl 3) (zw 3) (zf 3) :: oX7 (pa 4) (pb 4) (pc 4) (zc 4) (zr 4) (zl 4) (zw 4) (zf 4) :: oX7 (pa 5) (pb 5) (pc 5) (zc 5) (zr 5) (zl 5) (zw 5) (zf 5) :: X) := hD
  exact W.vret hx hb hr (fun t9 ht9 hW9 => ⟨⟨(va_up (va_up (va_up (va_up (va_up (va_up svf 0 (some (pa 1))) 1 (some (pa 2))) 2 (some (pa 3))) 3 (some (pa 4))) 4 (some (pa 5))) 5 (some (pa 0))), rfl, ⟨fun i hi => by rcases (show i = 0 ∨ i = 1 ∨ i = 2 ∨ i = 3 ∨ i = 4 by omega) with rfl | rfl | rfl | rfl | rfl <;> rfl, rfl⟩, by rw [ht9]; exact hP, hD⟩, hS.F ht9⟩) hS.2.2 dX1_dropOldest_47
set_option maxHeartbeats 4000000 in
set_option maxRecDepth 100000 in
theorem m_save_0 (l : Launch) (D : va_G) (cI cZ cW cJ : ClassId) (A : Nat → Prop) (X : va_W) (hi hv : Nat) (w wb ws : Nat) (wc wr wl ww wf : Int32) (wbl wse : Nat → Int32) (HR : va_W) (hist : Nat → KS) (S : KS) (hR : HistR cI cW hv hist 0 HR) (hS0 : AbsX S wbl wse wc wr wl ww wf) : Met l yX1_save wsX1_save ({ frames := 2, cells := 0, slots := 0, locals := 61 }) (va_Pc [.ref hi, .ref w] (wd D (tyL cI cZ cW cJ) A (oX1 hi (nI 0) hv :: oX7 w wb ws wc wr wl ww wf :: aI cI wb 10 wbl :: aI cI ws 3 wse :: (X ++ HR)))) (va_Qv (fun (u : va_W) => HistR cI cW hv (pushH hist 0 S) (pushN 0) u) (fun (u : va_W) t => wq D A (oX1 hi (nI (pushN 0)) hv :: oX7 w wb ws wc wr wl ww wf :: aI cI wb 10 wbl :: aI cI ws 3 wse :: (X ++ u)) t) A) 0 0 A := by
  refine Met.ofW (cc := cX1_save) (maxL := 3) (ret := none) (by decide) rfl ?_
  intro p e s m args below meth c s₁ B hml hv
  obtain ⟨rfl, hsz9, hP, hK, hD, hN⟩ := hv
  have hx := B.exec
  have hb := B.bytes
  have hr := B.returns
  have hts := atoms_spec (ws := wsX1_save) B.pre
  have hown : s.vm.findClass RX1 = some m.cls := findClass_of_methodNamed B.named
  have hlocks := B.notSynchronized
  have CF : CallFix p m c cX1_save 3 s _ wsX1_save RX1 := ⟨hx, hb, hml, hown, hts⟩
  have hA : ∀ q : Nat, s.heap.size ≤ q → A q := hsz9
  have hS : va_S A s.heap s.heap [] := va_S.rf
  have hiX1 : ∀ w ∈ u_ws RX1 TX1 2, w ∈ wsX1_save := fun _ h => List.mem_cons_of_mem _ (List.mem_append_left _ (List.mem_append_right _ (h)))
  have hl := lv_entry ([.ref hi, .ref w]) (n := 3) (Nat.le_of_ble_eq_true rfl)
  rw [lg_entry_eq]
  generalize (lg_sl ([.ref hi, .ref w]) ++ List.replicate (3 - (lg_sl ([.ref hi, .ref w])).length) Slot.unset).toArray = ls at hl ⊢
  have hl : lv_has ls 3 [(0, .ref hi), (1, .ref w)] := hl
  show W p l e ({ frames := 2, cells := 0, slots := 0, locals := 61 } : Room) s m (([.ref hi, .ref w] : List Value).toArray) below meth c s.heap [] 0 0 (MQ below (va_Qv (fun (u : va_W) => HistR cI cW hv (pushH hist 0 S) (pushN 0) u) (fun (u : va_W) t => wq D A (oX1 hi (nI (pushN 0)) hv :: oX7 w wb ws wc wr wl ww wf :: aI cI wb 10 wbl :: aI cI ws 3 wse :: (X ++ u)) t) A) (([.ref hi, .ref w] : List Value).toArray) s 0 0 A) (F0 m 0 ls [])
  obtain ⟨svf, pa, pb, pc, zb, zs, zc, zr, zl, zw, zf, rfl, hsv, hn6, hH⟩ := hR
  have hPD := blk_front (w := [oX1 hi 0 hv, oX7 w wb ws wc wr wl ww wf, aI cI wb 10 wbl, aI cI ws 3 wse]) hP hD
  have hP : va_P D vwCl (oX1 hi 0 hv :: oX7 w wb ws wc wr wl ww wf :: aI cI wb 10 wbl :: aI cI ws 3 wse :: aW cW hv 6 svf :: oX7 (pa 0) (pb 0) (pc 0) (zc 0) (zr 0) (zl 0) (zw 0) (zf 0) :: aI cI (pb 0) 10 (zb 0) :: aI cI (pc 0) 3 (zs 0) :: oX7 (pa 1) (pb 1) (pc 1) (zc 1) (zr 1) (zl 1) (zw 1) (zf 1) :: aI cI (pb 1) 10 (zb 1) :: aI cI (pc 1) 3 (zs 1) :: oX7 (pa 2) (pb 2) (pc 2) (zc 2) (zr 2) (zl 2) (zw 2) (zf 2) :: aI cI (pb 2) 10 (zb 2) :: aI cI (pc 2) 3 (zs 2) :: oX7 (pa 3) (pb 3) (pc 3) (zc 3) (zr 3) (zl 3) (zw 3) (zf 3) :: aI cI (pb 3) 10 (zb 3) :: aI cI (pc 3) 3 (zs 3) :: oX7 (pa 4) (pb 4) (pc 4) (zc 4) (zr 4) (zl 4) (zw 4) (zf 4) :: aI cI (pb 4) 10 (zb 4) :: aI cI (pc 4) 3 (zs 4) :: oX7 (pa 5) (pb 5) (pc 5) (zc 5) (zr 5) (zl 5) (zw 5) (zf 5) :: aI cI (pb 5) 10 (zb 5) :: aI cI (pc 5) 3 (zs 5) :: X) s.heap := hPD.1
  have hD : va_D A (oX1 hi 0 hv :: oX7 w wb ws wc wr wl ww wf :: aI cI wb 10 wbl :: aI cI ws 3 wse :: aW cW hv 6 svf :: oX7 (pa 0) (pb 0) (pc 0) (zc 0) (zr 0) (zl 0) (zw 0) (zf 0) :: aI cI (pb 0) 10 (zb 0) :: aI cI (pc 0) 3 (zs 0) :: oX7 (pa 1) (pb 1) (pc 1) (zc 1) (zr 1) (zl 1) (zw 1) (zf 1) :: aI cI (pb 1) 10 (zb 1) :: aI cI (pc 1) 3 (zs 1) :: oX7 (pa 2) (pb 2) (pc 2) (zc 2) (zr 2) (zl 2) (zw 2) (zf 2) :: aI cI (pb 2) 10 (zb 2) :: aI cI (pc 2) 3 (zs 2) :: oX7 (pa 3) (pb 3) (pc 3) (zc 3) (zr 3) (zl 3) (zw 3) (zf 3) :: aI cI (pb 3) 10 (zb 3) :: aI cI (pc 3) 3 (zs 3) :: oX7 (pa 4) (pb 4) (pc 4) (zc 4) (zr 4) (zl 4) (zw 4) (zf 4) :: aI cI (pb 4) 10 (zb 4) :: aI cI (pc 4) 3 (zs 4) :: oX7 (pa 5) (pb 5) (pc 5) (zc 5) (zr 5) (zl 5) (zw 5) (zf 5) :: aI cI (pb 5) 10 (zb 5) :: aI cI (pc 5) 3 (zs 5) :: X) := hPD.2
  refine lv_aload_n hx hb dX1_save_0 rfl (lv_at hl 0 rfl) ?_
  refine va_get (D := D) (ci := 1) (v := .int 0) (C := RX1) (T := TX1) (N := 2) hx hb hts hiX1 hown hK hP 0 rfl rfl 0 (by decide) (hts (.fieldLink RX1 18 "LedgeLeaps$History" "size" "I") (List.mem_of_getElem? (i := 1) rfl)) (fun _ h9 => h9) rfl dX1_save_1 ?_
  refine lv_bipush (v := 6) hx hb dX1_save_4 (by decide) ?_
  have c_6 : (0 : Int32) < 6 := by decide
  refine lv_icmp_lt (tgt := 13) hx hb dX1_save_6 (by decide) (fun _ => ?_) (fun q => absurd c_6 q)
  refine lv_aload_n hx hb dX1_save_13 rfl (lv_at hl 0 rfl) ?_
  refine va_get (D := D) (ci := 1) (v := .int 0) (C := RX1) (T := TX1) (N := 2) hx hb hts hiX1 hown hK hP 0 rfl rfl 0 (by decide) (hts (.fieldLink RX1 18 "LedgeLeaps$History" "size" "I") (List.mem_of_getElem? (i := 1) rfl)) (fun _ h9 => h9) rfl dX1_save_14 ?_
  have c_17 : ¬ (0 : Int32) < 0 := by decide
  refine lv_if_lt (tgt := 41) hx hb dX1_save_17 (by decide) (fun q => absurd q c_17) (fun _ => ?_)
  refine lv_aload_n hx hb dX1_save_20 rfl (lv_at hl 0 rfl) ?_
  refine va_get (D := D) (ci := 1) (v := .int 0) (C := RX1) (T := TX1) (N := 2) hx hb hts hiX1 hown hK hP 0 rfl rfl 0 (by decide) (hts (.fieldLink RX1 18 "LedgeLeaps$History" "size" "I") (List.mem_of_getElem? (i := 1) rfl)) (fun _ h9 => h9) rfl dX1_save_21 ?_
  refine lv_bipush (v := 6) hx hb dX1_save_24 (by decide) ?_
  have c_26 : ¬ (6 : Int32) ≤ 0 := by decide
  refine lv_icmp_ge (tgt := 41) hx hb dX1_save_26 (by decide) (fun q => absurd q c_26) (fun _ => ?_)
  refine lv_aload_n hx hb dX1_save_29 rfl (lv_at hl 0 rfl) ?_
  refine va_get (D := D) (ci := 1) (v := .ref hv) (C := RX1) (T := TX1) (N := 2) hx hb hts hiX1 hown hK hP 0 rfl rfl 1 (by decide) (hts (.fieldLink RX1 11 "LedgeLeaps$History" "saved" "[LLedgeLeaps$World;") (List.mem_of_getElem? (i := 2) rfl)) (fun _ h9 => h9) rfl dX1_save_30 ?_
  refine lv_aload_n hx hb dX1_save_33 rfl (lv_at hl 0 rfl) ?_
  refine va_get (D := D) (ci := 1) (v := .int 0) (C := RX1) (T := TX1) (N := 2) hx hb hts hiX1 hown hK hP 0 rfl rfl 0 (by decide) (hts (.fieldLink RX1 18 "LedgeLeaps$History" "size" "I") (List.mem_of_getElem? (i := 1) rfl)) (fun _ h9 => h9) rfl dX1_save_34 ?_
  refine va_aldr (v := (pa 0)) hx hb hK hP 4 2 rfl rfl (show ¬ ((0 : Int32) < 0 ∨ 6 ≤ (0 : Int32).toNatClampNeg) by decide) (hsv 0 (by decide)) dX1_save_37 ?_
  refine lv_goto (tgt := 42) hx hb dX1_save_38 (by decide) ?_
  refine lv_astore_n (lv' := [(2, .ref (pa 0)), (0, .ref hi), (1, .ref w)]) hx hb dX1_save_42 rfl hl (by decide) rfl (fun ls hl => ?_)
  refine lv_aload_n hx hb dX1_save_43 rfl (lv_at hl 0 rfl) ?_
  refine lv_ifnull hx hb dX1_save_44 ?_
  refine lv_aload_n hx hb dX1_save_47 rfl (lv_at hl 0 rfl) ?_
  refine lv_aload_n hx hb dX1_save_48 rfl (lv_at hl 2 rfl) ?_
  refine cV_v CF hK hN hA hS (cut_of 23 [5, 6, 7, 1, 2, 3, 0, 4, 8, 9, 10, 11, 12, 13, 14, 15, 16, 17, 18, 19, 20, 21, 22] hP hD rfl rfl rfl) (m_becomeLike l D cI cZ cW cJ A (oX1 hi 0 hv :: aW cW hv 6 svf :: oX7 (pa 1) (pb 1) (pc 1) (zc 1) (zr 1) (zl 1) (zw 1) (zf 1) :: aI cI (pb 1) 10 (zb 1) :: aI cI (pc 1) 3 (zs 1) :: oX7 (pa 2) (pb 2) (pc 2) (zc 2) (zr 2) (zl 2) (zw 2) (zf 2) :: aI cI (pb 2) 10 (zb 2) :: aI cI (pc 2) 3 (zs 2) :: oX7 (pa 3) (pb 3) (pc 3) (zc 3) (zr 3) (zl 3) (zw 3) (zf 3) :: aI cI (pb 3) 10 (zb 3) :: aI cI (pc 3) 3 (zs 3) :: oX7 (pa 4) (pb 4) (pc 4) (zc 4) (zr 4) (zl 4) (zw 4) (zf 4) :: aI cI (pb 4) 10 (zb 4) :: aI cI (pc 4) 3 (zs 4) :: oX7 (pa 5) (pb 5) (pc 5) (zc 5) (zr 5) (zl 5) (zw 5) (zf 5) :: aI cI (pb 5) 10 (zb 5) :: aI cI (pc 5) 3 (zs 5) :: X) (pa 0) (pb 0) (pc 0) (zc 0) (zr 0) (zl 0) (zw 0) (zf 0) (zb 0) (zs 0) w wb ws wc wr wl ww wf wbl wse) (cwV 1 hts gX1_save_X7_becomeLike rfl rfl rfl (by decide +kernel) ⟨Nat.le_of_ble_eq_true rfl, Nat.le_of_ble_eq_true rfl⟩) (As := [.ref w]) (rest := []) (ci := 7) (q0 := 0) rfl rfl rfl hl.1 rfl (Nat.le_of_ble_eq_true rfl) dX1_save_49 ⟨Nat.le_of_ble_eq_true rfl, Nat.le_of_ble_eq_true rfl⟩ (fun u_49 H locs hq hP hD hS => ?_)
  have hq_49 : (∀ j, j < 10 → u_49.1 j = wbl j) ∧ (∀ j, j < 3 → u_49.2 j = wse j) := hq
  have hP : va_P D vwCl (oX1 hi 0 hv :: oX7 w wb ws wc wr wl ww wf :: aI cI wb 10 wbl :: aI cI ws 3 wse :: aW cW hv 6 svf :: oX7 (pa 0) (pb 0) (pc 0) wc wr wl ww wf :: aI cI (pb 0) 10 u_49.1 :: aI cI (pc 0) 3 u_49.2 :: oX7 (pa 1) (pb 1) (pc 1) (zc 1) (zr 1) (zl 1) (zw 1) (zf 1) :: aI cI (pb 1) 10 (zb 1) :: aI cI (pc 1) 3 (zs 1) :: oX7 (pa 2) (pb 2) (pc 2) (zc 2) (zr 2) (zl 2) (zw 2) (zf 2) :: aI cI (pb 2) 10 (zb 2) :: aI cI (pc 2) 3 (zs 2) :: oX7 (pa 3) (pb 3) (pc 3) (zc 3) (zr 3) (zl 3) (zw 3) (zf 3) :: aI cI (pb 3) 10 (zb 3) :: aI cI (pc 3) 3 (zs 3) :: oX7 (pa 4) (pb 4) (pc 4) (zc 4) (zr 4) (zl 4) (zw 4) (zf 4) :: aI cI (pb 4) 10 (zb 4) :: aI cI (pc 4) 3 (zs 4) :: oX7 (pa 5) (pb 5) (pc 5) (zc 5) (zr 5) (zl 5) (zw 5) (zf 5) :: aI cI (pb 5) 10 (zb 5) :: aI cI (pc 5) 3 (zs 5) :: X) H := pm_P hP 23 [6, 3, 4, 5, 7, 0, 1, 2, 8, 9, 10, 11, 12, 13, 14, 15, 16, 17, 18, 19, 20, 21, 22] rfl
  have hD : va_D A (oX1 hi 0 hv :: oX7 w wb ws wc wr wl ww wf :: aI cI wb 10 wbl :: aI cI ws 3 wse :: aW cW hv 6 svf :: oX7 (pa 0) (pb 0) (pc 0) wc wr wl ww wf :: aI cI (pb 0) 10 u_49.1 :: aI cI (pc 0) 3 u_49.2 :: oX7 (pa 1) (pb 1) (pc 1) (zc 1) (zr 1) (zl 1) (zw 1) (zf 1) :: aI cI (pb 1) 10 (zb 1) :: aI cI (pc 1) 3 (zs 1) :: oX7 (pa 2) (pb 2) (pc 2) (zc 2) (zr 2) (zl 2) (zw 2) (zf 2) :: aI cI (pb 2) 10 (zb 2) :: aI cI (pc 2) 3 (zs 2) :: oX7 (pa 3) (pb 3) (pc 3) (zc 3) (zr 3) (zl 3) (zw 3) (zf 3) :: aI cI (pb 3) 10 (zb 3) :: aI cI (pc 3) 3 (zs 3) :: oX7 (pa 4) (pb 4) (pc 4) (zc 4) (zr 4) (zl 4) (zw 4) (zf 4) :: aI cI (pb 4) 10 (zb 4) :: aI cI (pc 4) 3 (zs 4) :: oX7 (pa 5) (pb 5) (pc 5) (zc 5) (zr 5) (zl 5) (zw 5) (zf 5) :: aI cI (pb 5) 10 (zb 5) :: aI cI (pc 5) 3 (zs 5) :: X) := pm_D hD 23 [6, 3, 4, 5, 7, 0, 1, 2, 8, 9, 10, 11, 12, 13, 14, 15, 16, 17, 18, 19, 20, 21, 22] rfl rfl rfl
  refine lv_aload_n hx hb dX1_save_52 rfl (lv_at hl 1 rfl) ?_
  refine lv_dup hx hb dX1_save_53 rfl ?_
  refine va_get (D := D) (ci := 1) (v := .int 0) (C := RX1) (T := TX1) (N := 2) hx hb hts hiX1 hown hK hP 0 rfl rfl 0 (by decide) (hts (.fieldLink RX1 18 "LedgeLeaps$History" "size" "I") (List.mem_of_getElem? (i := 1) rfl)) (fun _ h9 => h9) rfl dX1_save_54 ?_
  refine lv_iconst (v := 1) hx hb dX1_save_57 (by decide) ?_
  refine lv_iadd hx hb dX1_save_58 ?_
  refine top_i (y := 1) (by decide) ?_
  refine va_put (D := D) (ci := 1) (v := .int 1) (ty := .int) (C := RX1) (T := TX1) (N := 2) hx hb hts hiX1 tyX1 tyX1_ok nmX1 hown hK hP hD hS 0 rfl rfl 0 (by decide) (hts (.fieldLink RX1 18 "LedgeLeaps$History" "size" "I") (List.mem_of_getElem? (i := 1) rfl)) (fun _ h9 => h9) rfl (by decide +kernel) rfl rfl (Nat.le_of_ble_eq_true rfl) dX1_save_59 (fun H locs hP hD hS => ?_)
  have hP : va_P D vwCl (oX1 hi 1 hv :: oX7 w wb ws wc wr wl ww wf :: aI cI wb 10 wbl :: aI cI ws 3 wse :: aW cW hv 6 svf :: oX7 (pa 0) (pb 0) (pc 0) wc wr wl ww wf :: aI cI (pb 0) 10 u_49.1 :: aI cI (pc 0) 3 u_49.2 :: oX7 (pa 1) (pb 1) (pc 1) (zc 1) (zr 1) (zl 1) (zw 1) (zf 1) :: aI cI (pb 1) 10 (zb 1) :: aI cI (pc 1) 3 (zs 1) :: oX7 (pa 2) (pb 2) (pc 2) (zc 2) (zr 2) (zl 2) (zw 2) (zf 2) :: aI cI (pb 2) 10 (zb 2) :: aI cI (pc 2) 3 (zs 2) :: oX7 (pa 3) (pb 3) (pc 3) (zc 3) (zr 3) (zl 3) (zw 3) (zf 3) :: aI cI (pb 3) 10 (zb 3) :: aI cI (pc 3) 3 (zs 3) :: oX7 (pa 4) (pb 4) (pc 4) (zc 4) (zr 4) (zl 4) (zw 4) (zf 4) :: aI cI (pb 4) 10 (zb 4) :: aI cI (pc 4) 3 (zs 4) :: oX7 (pa 5) (pb 5) (pc 5) (zc 5) (zr 5) (zl 5) (zw 5) (zf 5) :: aI cI (pb 5) 10 (zb 5) :: aI cI (pc 5) 3 (zs 5) :: X) H := hP
  have hD : va_D A (oX1 hi 1 hv :: oX7 w wb ws wc wr wl ww wf :: aI cI wb 10 wbl :: aI cI ws 3 wse :: aW cW hv 6 svf :: oX7 (pa 0) (pb 0) (pc 0) wc wr wl ww wf :: aI cI (pb 0) 10 u_49.1 :: aI cI (pc 0) 3 u_49.2 :: oX7 (pa 1) (pb 1) (pc 1) (zc 1) (zr 1) (zl 1) (zw 1) (zf 1) :: aI cI (pb 1) 10 (zb 1) :: aI cI (pc 1) 3 (zs 1) :: oX7 (pa 2) (pb 2) (pc 2) (zc 2) (zr 2) (zl 2) (zw 2) (zf 2) :: aI cI (pb 2) 10 (zb 2) :: aI cI (pc 2) 3 (zs 2) :: oX7 (pa 3) (pb 3) (pc 3) (zc 3) (zr 3) (zl 3) (zw 3) (zf 3) :: aI cI (pb 3) 10 (zb 3) :: aI cI (pc 3) 3 (zs 3) :: oX7 (pa 4) (pb 4) (pc 4) (zc 4) (zr 4) (zl 4) (zw 4) (zf 4) :: aI cI (pb 4) 10 (zb 4) :: aI cI (pc 4) 3 (zs 4) :: oX7 (pa 5) (pb 5) (pc 5) (zc 5) (zr 5) (zl 5) (zw 5) (zf 5) :: aI cI (pb 5) 10 (zb 5) :: aI cI (pc 5) 3 (zs 5) :: X) := hD
  have hP := pm_P hP 23 [0, 1, 2, 3, 4, 5, 6, 7, 8, 9, 10, 11, 12, 13, 14, 15, 16, 17, 18, 19, 20, 21, 22] rfl
  have hD := pm_D hD 23 [0, 1, 2, 3, 4, 5, 6, 7, 8, 9, 10, 11, 12, 13, 14, 15, 16, 17, 18, 19, 20, 21, 22] rfl rfl rfl
  have hPD := blk_back (w := [oX1 hi 1 hv, oX7 w wb ws wc wr wl ww wf, aI cI wb 10 wbl, aI cI ws 3 wse]) (B := [aW cW hv 6 svf, oX7 (pa 0) (pb 0) (pc 0) wc wr wl ww wf, aI cI (pb 0) 10 u_49.1, aI cI (pc 0) 3 u_49.2, oX7 (pa 1) (pb 1) (pc 1) (zc 1) (zr 1) (zl 1) (zw 1) (zf 1), aI cI (pb 1) 10 (zb 1), aI cI (pc 1) 3 (zs 1), oX7 (pa 2) (pb 2) (pc 2) (zc 2) (zr 2) (zl 2) (zw 2) (zf 2), aI cI (pb 2) 10 (zb 2), aI cI (pc 2) 3 (zs 2), oX7 (pa 3) (pb 3) (pc 3) (zc 3) (zr 3) (zl 3) (zw 3) (zf 3), aI cI (pb 3) 10 (zb 3), aI cI (pc 3) 3 (zs 3), oX7 (pa 4) (pb 4) (pc 4) (zc 4) (zr 4) (zl 4) (zw 4) (zf 4), aI cI (pb 4) 10 (zb 4), aI cI (pc 4) 3 (zs 4), oX7 (pa 5) (pb 5) (pc 5) (zc 5) (zr 5) (zl 5) (zw 5) (zf 5), aI cI (pb 5) 10 (zb 5), aI cI (pc 5) 3 (zs 5)]) hP hD
  have hP := hPD.1
  have hD := hPD.2
  have hnew : HistR cI cW hv (pushH hist 0 S) (pushN 0) [aW cW hv 6 svf, oX7 (pa 0) (pb 0) (pc 0) wc wr wl ww wf, aI cI (pb 0) 10 u_49.1, aI cI (pc 0) 3 u_49.2, oX7 (pa 1) (pb 1) (pc 1) (zc 1) (zr 1) (zl 1) (zw 1) (zf 1), aI cI (pb 1) 10 (zb 1), aI cI (pc 1) 3 (zs 1), oX7 (pa 2) (pb 2) (pc 2) (zc 2) (zr 2) (zl 2) (zw 2) (zf 2), aI cI (pb 2) 10 (zb 2), aI cI (pc 2) 3 (zs 2), oX7 (pa 3) (pb 3) (pc 3) (zc 3) (zr 3) (zl 3) (zw 3) (zf 3), aI cI (pb 3) 10 (zb 3), aI cI (pc 3) 3 (zs 3), oX7 (pa 4) (pb 4) (pc 4) (zc 4) (zr 4) (zl 4) (zw 4) (zf 4), aI cI (pb 4) 10 (zb 4), aI cI (pc 4) 3 (zs 4), oX7 (pa 5) (pb 5) (pc 5) (zc 5) (zr 5) (zl 5) (zw 5) (zf 5), aI cI (pb 5) 10 (zb 5), aI cI (pc 5) 3 (zs 5)] := by
    refine ⟨svf, (va_up pa 0 (pa 0)), (va_up pb 0 (pb 0)), (va_up pc 0 (pc 0)), (va_up zb 0 u_49.1), (va_up zs 0 u_49.2), (va_up zc 0 wc), (va_up zr 0 wr), (va_up zl 0 wl), (va_up zw 0 ww), (va_up zf 0 wf), rfl, ?_, by decide, ?_⟩
    · exact fun i hi => by rcases (show i = 0 ∨ i = 1 ∨ i = 2 ∨ i = 3 ∨ i = 4 ∨ i = 5 by omega) with rfl | rfl | rfl | rfl | rfl | rfl <;> first | exact hsv _ (by decide) | exact hq_10.2 | exact hq_10.1 _ (by decide)
    · exact fun i hi => by
        have hi : i < 1 := hi
        show AbsX (if i = 0 then S else hist i) (va_up zb 0 u_49.1 i) (va_up zs 0 u_49.2 i) (va_up zc 0 wc i) (va_up zr 0 wr i) (va_up zl 0 wl i) (va_up zw 0 ww i) (va_up zf 0 wf i)
        by_cases q : i = 0
        · subst q; rw [if_pos rfl]; simp only [up_s]; exact hS0.cong hq_49.1 hq_49.2
        · rw [if_neg q]; simp only [up_n q]; exact hH i (by omega)
  exact W.vret hx hb hr (fun t9 ht9 hW9 => ⟨⟨_, rfl, hnew, by rw [ht9]; exact hP, hD⟩, hS.F ht9⟩) hS.2.2 dX1_save_62
set_option maxHeartbeats 4000000 in
set_option maxRecDepth 100000 in
theorem m_save_1 (l : Launch) (D : va_G) (cI cZ cW cJ : ClassId) (A : Nat → Prop) (X : va_W) (hi hv : Nat) (w wb ws : Nat) (wc wr wl ww wf : Int32) (wbl wse : Nat → Int32) (HR : va_W) (hist : Nat → KS) (S : KS) (hR : HistR cI cW hv hist 1 HR) (hS0 : AbsX S wbl wse wc wr wl ww wf) : Met l yX1_save wsX1_save ({ frames := 2, cells := 0, slots := 0, locals := 61 }) (va_Pc [.ref hi, .ref w] (wd D (tyL cI cZ cW cJ) A (oX1 hi (nI 1) hv :: oX7 w wb ws wc wr wl ww wf :: aI cI wb 10 wbl :: aI cI ws 3 wse :: (X ++ HR)))) (va_Qv (fun (u : va_W) => HistR cI cW hv (pushH hist 1 S) (pushN 1) u) (fun (u : va_W) t => wq D A (oX1 hi (nI (pushN 1)) hv :: oX7 w wb ws wc wr wl ww wf :: aI cI wb 10 wbl :: aI cI ws 3 wse :: (X ++ u)) t) A) 0 0 A := by
  refine Met.ofW (cc := cX1_save) (maxL := 3) (ret := none) (by decide) rfl ?_
  intro p e s m args below meth c s₁ B hml hv
  obtain ⟨rfl, hsz9, hP, hK, hD, hN⟩ := hv
  have hx := B.exec
  have hb := B.bytes
  have hr := B.returns
  have hts := atoms_spec (ws := wsX1_save) B.pre
  have hown : s.vm.findClass RX1 = some m.cls := findClass_of_methodNamed B.named
  have hlocks := B.notSynchronized
  have CF : CallFix p m c cX1_save 3 s _ wsX1_save RX1 := ⟨hx, hb, hml, hown, hts⟩
  have hA : ∀ q : Nat, s.heap.size ≤ q → A q := hsz9
  have hS : va_S A s.heap s.heap [] := va_S.rf
  have hiX1 : ∀ w ∈ u_ws RX1 TX1 2, w ∈ wsX1_save := fun _ h => List.mem_cons_of_mem _ (List.mem_append_left _ (List.mem_append_right _ (h)))
  have hl := lv_entry ([.ref hi, .ref w]) (n := 3) (Nat.le_of_ble_eq_true rfl)
  rw [lg_entry_eq]
  generalize (lg_sl ([.ref hi, .ref w]) ++ List.replicate (3 - (lg_sl ([.ref hi, .ref w])).length) Slot.unset).toArray = ls at hl ⊢
  have hl : lv_has ls 3 [(0, .ref hi), (1, .ref w)] := hl
  show W p l e ({ frames := 2, cells := 0, slots := 0, locals := 61 } : Room) s m (([.ref hi, .ref w] : List Value).toArray) below meth c s.heap [] 0 0 (MQ below (va_Qv (fun (u : va_W) => HistR cI cW hv (pushH hist 1 S) (pushN 1) u) (fun (u : va_W) t => wq D A (oX1 hi (nI (pushN 1)) hv :: oX7 w wb ws wc wr wl ww wf :: aI cI wb 10 wbl :: aI cI ws 3 wse :: (X ++ u)) t) A) (([.ref hi, .ref w] : List Value).toArray) s 0 0 A) (F0 m 0 ls [])
  obtain ⟨svf, pa, pb, pc, zb, zs, zc, zr, zl, zw, zf, rfl, hsv, hn6, hH⟩ := hR
  have hPD := blk_front (w := [oX1 hi 1 hv, oX7 w wb ws wc wr wl ww wf, aI cI wb 10 wbl, aI cI ws 3 wse]) hP hD
  have hP : va_P D vwCl (oX1 hi 1 hv :: oX7 w wb ws wc wr wl ww wf :: aI cI wb 10 wbl :: aI cI ws 3 wse :: aW cW hv 6 svf :: oX7 (pa 0) (pb 0) (pc 0) (zc 0) (zr 0) (zl 0) (zw 0) (zf 0) :: aI cI (pb 0) 10 (zb 0) :: aI cI (pc 0) 3 (zs 0) :: oX7 (pa 1) (pb 1) (pc 1) (zc 1) (zr 1) (zl 1) (zw 1) (zf 1) :: aI cI (pb 1) 10 (zb 1) :: aI cI (pc 1) 3 (zs 1) :: oX7 (pa 2) (pb 2) (pc 2) (zc 2) (zr 2) (zl 2) (zw 2) (zf 2) :: aI cI (pb 2) 10 (zb 2) :: aI cI (pc 2) 3 (zs 2) :: oX7 (pa 3) (pb 3) (pc 3) (zc 3) (zr 3) (zl 3) (zw 3) (zf 3) :: aI cI (pb 3) 10 (zb 3) :: aI cI (pc 3) 3 (zs 3) :: oX7 (pa 4) (pb 4) (pc 4) (zc 4) (zr 4) (zl 4) (zw 4) (zf 4) :: aI cI (pb 4) 10 (zb 4) :: aI cI (pc 4) 3 (zs 4) :: oX7 (pa 5) (pb 5) (pc 5) (zc 5) (zr 5) (zl 5) (zw 5) (zf 5) :: aI cI (pb 5) 10 (zb 5) :: aI cI (pc 5) 3 (zs 5) :: X) s.heap := hPD.1
  have hD : va_D A (oX1 hi 1 hv :: oX7 w wb ws wc wr wl ww wf :: aI cI wb 10 wbl :: aI cI ws 3 wse :: aW cW hv 6 svf :: oX7 (pa 0) (pb 0) (pc 0) (zc 0) (zr 0) (zl 0) (zw 0) (zf 0) :: aI cI (pb 0) 10 (zb 0) :: aI cI (pc 0) 3 (zs 0) :: oX7 (pa 1) (pb 1) (pc 1) (zc 1) (zr 1) (zl 1) (zw 1) (zf 1) :: aI cI (pb 1) 10 (zb 1) :: aI cI (pc 1) 3 (zs 1) :: oX7 (pa 2) (pb 2) (pc 2) (zc 2) (zr 2) (zl 2) (zw 2) (zf 2) :: aI cI (pb 2) 10 (zb 2) :: aI cI (pc 2) 3 (zs 2) :: oX7 (pa 3) (pb 3) (pc 3) (zc 3) (zr 3) (zl 3) (zw 3) (zf 3) :: aI cI (pb 3) 10 (zb 3) :: aI cI (pc 3) 3 (zs 3) :: oX7 (pa 4) (pb 4) (pc 4) (zc 4) (zr 4) (zl 4) (zw 4) (zf 4) :: aI cI (pb 4) 10 (zb 4) :: aI cI (pc 4) 3 (zs 4) :: oX7 (pa 5) (pb 5) (pc 5) (zc 5) (zr 5) (zl 5) (zw 5) (zf 5) :: aI cI (pb 5) 10 (zb 5) :: aI cI (pc 5) 3 (zs 5) :: X) := hPD.2
  refine lv_aload_n hx hb dX1_save_0 rfl (lv_at hl 0 rfl) ?_
  refine va_get (D := D) (ci := 1) (v := .int 1) (C := RX1) (T := TX1) (N := 2) hx hb hts hiX1 hown hK hP 0 rfl rfl 0 (by decide) (hts (.fieldLink RX1 18 "LedgeLeaps$History" "size" "I") (List.mem_of_getElem? (i := 1) rfl)) (fun _ h9 => h9) rfl dX1_save_1 ?_
  refine lv_bipush (v := 6) hx hb dX1_save_4 (by decide) ?_
  have c_6 : (1 : Int32) < 6 := by decide
  refine lv_icmp_lt (tgt := 13) hx hb dX1_save_6 (by decide) (fun _ => ?_) (fun q => absurd c_6 q)
  refine lv_aload_n hx hb dX1_save_13 rfl (lv_at hl 0 rfl) ?_
  refine va_get (D := D) (ci := 1) (v := .int 1) (C := RX1) (T := TX1) (N := 2) hx hb hts hiX1 hown hK hP 0 rfl rfl 0 (by decide) (hts (.fieldLink RX1 18 "LedgeLeaps$History" "size" "I") (List.mem_of_getElem? (i := 1) rfl)) (fun _ h9 => h9) rfl dX1_save_14 ?_
  have c_17 : ¬ (1 : Int32) < 0 := by decide
  refine lv_if_lt (tgt := 41) hx hb dX1_save_17 (by decide) (fun q => absurd q c_17) (fun _ => ?_)
  refine lv_aload_n hx hb dX1_save_20 rfl (lv_at hl 0 rfl) ?_
  refine va_get (D := D) (ci := 1) (v := .int 1) (C := RX1) (T := TX1) (N := 2) hx hb hts hiX1 hown hK hP 0 rfl rfl 0 (by decide) (hts (.fieldLink RX1 18 "LedgeLeaps$History" "size" "I") (List.mem_of_getElem? (i := 1) rfl)) (fun _ h9 => h9) rfl dX1_save_21 ?_
  refine lv_bipush (v := 6) hx hb dX1_save_24 (by decide) ?_
  have c_26 : ¬ (6 : Int32) ≤ 1 := by decide
  refine lv_icmp_ge (tgt := 41) hx hb dX1_save_26 (by decide) (fun q => absurd q c_26) (fun _ => ?_)
  refine lv_aload_n hx hb dX1_save_29 rfl (lv_at hl 0 rfl) ?_
  refine va_get (D := D) (ci := 1) (v := .ref hv) (C := RX1) (T := TX1) (N := 2) hx hb hts hiX1 hown hK hP 0 rfl rfl 1 (by decide) (hts (.fieldLink RX1 11 "LedgeLeaps$History" "saved" "[LLedgeLeaps$World;") (List.mem_of_getElem? (i := 2) rfl)) (fun _ h9 => h9) rfl dX1_save_30 ?_
  refine lv_aload_n hx hb dX1_save_33 rfl (lv_at hl 0 rfl) ?_
  refine va_get (D := D) (ci := 1) (v := .int 1) (C := RX1) (T := TX1) (N := 2) hx hb hts hiX1 hown hK hP 0 rfl rfl 0 (by decide) (hts (.fieldLink RX1 18 "LedgeLeaps$History" "size" "I") (List.mem_of_getElem? (i := 1) rfl)) (fun _ h9 => h9) rfl dX1_save_34 ?_
  refine va_aldr (v := (pa 1)) hx hb hK hP 4 2 rfl rfl (show ¬ ((1 : Int32) < 0 ∨ 6 ≤ (1 : Int32).toNatClampNeg) by decide) (hsv 1 (by decide)) dX1_save_37 ?_
  refine lv_goto (tgt := 42) hx hb dX1_save_38 (by decide) ?_
  refine lv_astore_n (lv' := [(2, .ref (pa 1)), (0, .ref hi), (1, .ref w)]) hx hb dX1_save_42 rfl hl (by decide) rfl (fun ls hl => ?_)
  refine lv_aload_n hx hb dX1_save_43 rfl (lv_at hl 0 rfl) ?_
  refine lv_ifnull hx hb dX1_save_44 ?_
  refine lv_aload_n hx hb dX1_save_47 rfl (lv_at hl 0 rfl) ?_
  refine lv_aload_n hx hb dX1_save_48 rfl (lv_at hl 2 rfl) ?_
  refine cV_v CF hK hN hA hS (cut_of 23 [8, 9, 10, 1, 2, 3, 0, 4, 5, 6, 7, 11, 12, 13, 14, 15, 16, 17, 18, 19, 20, 21, 22] hP hD rfl rfl rfl) (m_becomeLike l D cI cZ cW cJ A (oX1 hi 1 hv :: aW cW hv 6 svf :: oX7 (pa 0) (pb 0) (pc 0) (zc 0) (zr 0) (zl 0) (zw 0) (zf 0) :: aI cI (pb 0) 10 (zb 0) :: aI cI (pc 0) 3 (zs 0) :: oX7 (pa 2) (pb 2) (pc 2) (zc 2) (zr 2) (zl 2) (zw 2) (zf 2) :: aI cI (pb 2) 10 (zb 2) :: aI cI (pc 2) 3 (zs 2) :: oX7 (pa 3) (pb 3) (pc 3) (zc 3) (zr 3) (zl 3) (zw 3) (zf 3) :: aI cI (pb 3) 10 (zb 3) :: aI cI (pc 3) 3 (zs 3) :: oX7 (pa 4) (pb 4) (pc 4) (zc 4) (zr 4) (zl 4) (zw 4) (zf 4) :: aI cI (pb 4) 10 (zb 4) :: aI cI (pc 4) 3 (zs 4) :: oX7 (pa 5) (pb 5) (pc 5) (zc 5) (zr 5) (zl 5) (zw 5) (zf 5) :: aI cI (pb 5) 10 (zb 5) :: aI cI (pc 5) 3 (zs 5) :: X) (pa 1) (pb 1) (pc 1) (zc 1) (zr 1) (zl 1) (zw 1) (zf 1) (zb 1) (zs 1) w wb ws wc wr wl ww wf wbl wse) (cwV 1 hts gX1_save_X7_becomeLike rfl rfl rfl (by decide +kernel) ⟨Nat.le_of_ble_eq_true rfl, Nat.le_of_ble_eq_true rfl⟩) (As := [.ref w]) (rest := []) (ci := 7) (q0 := 0) rfl rfl rfl hl.1 rfl (Nat.le_of_ble_eq_true rfl) dX1_save_49 ⟨Nat.le_of_ble_eq_true rfl, Nat.le_of_ble_eq_true rfl⟩ (fun u_49 H locs hq hP hD hS => ?_)
  have hq_49 : (∀ j, j < 10 → u_49.1 j = wbl j) ∧ (∀ j, j < 3 → u_49.2 j = wse j) := hq
  have hP : va_P D vwCl (oX1 hi 1 hv :: oX7 w wb ws wc wr wl ww wf :: aI cI wb 10 wbl :: aI cI ws 3 wse :: aW cW hv 6 svf :: oX7 (pa 0) (pb 0) (pc 0) (zc 0) (zr 0) (zl 0) (zw 0) (zf 0) :: aI cI (pb 0) 10 (zb 0) :: aI cI (pc 0) 3 (zs 0) :: oX7 (pa 1) (pb 1) (pc 1) wc wr wl ww wf :: aI cI (pb 1) 10 u_49.1 :: aI cI (pc 1) 3 u_49.2 :: oX7 (pa 2) (pb 2) (pc 2) (zc 2) (zr 2) (zl 2) (zw 2) (zf 2) :: aI cI (pb 2) 10 (zb 2) :: aI cI (pc 2) 3 (zs 2) :: oX7 (pa 3) (pb 3) (pc 3) (zc 3) (zr 3) (zl 3) (zw 3) (zf 3) :: aI cI (pb 3) 10 (zb 3) :: aI cI (pc 3) 3 (zs 3) :: oX7 (pa 4) (pb 4) (pc 4) (zc 4) (zr 4) (zl 4) (zw 4) (zf 4) :: aI cI (pb 4) 10 (zb 4) :: aI cI (pc 4) 3 (zs 4) :: oX7 (pa 5) (pb 5) (pc 5) (zc 5) (zr 5) (zl 5) (zw 5) (zf 5) :: aI cI (pb 5) 10 (zb 5) :: aI cI (pc 5) 3 (zs 5) :: X) H := pm_P hP 23 [6, 3, 4, 5, 7, 8, 9, 10, 0, 1, 2, 11, 12, 13, 14, 15, 16, 17, 18, 19, 20, 21, 22] rfl
  have hD : va_D A (oX1 hi 1 hv :: oX7 w wb ws wc wr wl ww wf :: aI cI wb 10 wbl :: aI cI ws 3 wse :: aW cW hv 6 svf :: oX7 (pa 0) (pb 0) (pc 0) (zc 0) (zr 0) (zl 0) (zw 0) (zf 0) :: aI cI (pb 0) 10 (zb 0) :: aI cI (pc 0) 3 (zs 0) :: oX7 (pa 1) (pb 1) (pc 1) wc wr wl ww wf :: aI cI (pb 1) 10 u_49.1 :: aI cI (pc 1) 3 u_49.2 :: oX7 (pa 2) (pb 2) (pc 2) (zc 2) (zr 2) (zl 2) (zw 2) (zf 2) :: aI cI (pb 2) 10 (zb 2) :: aI cI (pc 2) 3 (zs 2) :: oX7 (pa 3) (pb 3) (pc 3) (zc 3) (zr 3) (zl 3) (zw 3) (zf 3) :: aI cI (pb 3) 10 (zb 3) :: aI cI (pc 3) 3 (zs 3) :: oX7 (pa 4) (pb 4) (pc 4) (zc 4) (zr 4) (zl 4) (zw 4) (zf 4) :: aI cI (pb 4) 10 (zb 4) :: aI cI (pc 4) 3 (zs 4) :: oX7 (pa 5) (pb 5) (pc 5) (zc 5) (zr 5) (zl 5) (zw 5) (zf 5) :: aI cI (pb 5) 10 (zb 5) :: aI cI (pc 5) 3 (zs 5) :: X) := pm_D hD 23 [6, 3, 4, 5, 7, 8, 9, 10, 0, 1, 2, 11, 12, 13, 14, 15, 16, 17, 18, 19, 20, 21, 22] rfl rfl rfl
  refine lv_aload_n hx hb dX1_save_52 rfl (lv_at hl 1 rfl) ?_
  refine lv_dup hx hb dX1_save_53 rfl ?_
  refine va_get (D := D) (ci := 1) (v := .int 1) (C := RX1) (T := TX1) (N := 2) hx hb hts hiX1 hown hK hP 0 rfl rfl 0 (by decide) (hts (.fieldLink RX1 18 "LedgeLeaps$History" "size" "I") (List.mem_of_getElem? (i := 1) rfl)) (fun _ h9 => h9) rfl dX1_save_54 ?_
  refine lv_iconst (v := 1) hx hb dX1_save_57 (by decide) ?_
  refine lv_iadd hx hb dX1_save_58 ?_
  refine top_i (y := 2) (by decide) ?_
  refine va_put (D := D) (ci := 1) (v := .int 2) (ty := .int) (C := RX1) (T := TX1) (N := 2) hx hb hts hiX1 tyX1 tyX1_ok nmX1 hown hK hP hD hS 0 rfl rfl 0 (by decide) (hts (.fieldLink RX1 18 "LedgeLeaps$History" "size" "I") (List.mem_of_getElem? (i := 1) rfl)) (fun _ h9 => h9) rfl (by decide +kernel) rfl rfl (Nat.le_of_ble_eq_true rfl) dX1_save_59 (fun H locs hP hD hS => ?_)
  have hP : va_P D vwCl (oX1 hi 2 hv :: oX7 w wb ws wc wr wl ww wf :: aI cI wb 10 wbl :: aI cI ws 3 wse :: aW cW hv 6 svf :: oX7 (pa 0) (pb 0) (pc 0) (zc 0) (zr 0) (zl 0) (zw 0) (zf 0) :: aI cI (pb 0) 10 (zb 0) :: aI cI (pc 0) 3 (zs 0) :: oX7 (pa 1) (pb 1) (pc 1) wc wr wl ww wf :: aI cI (pb 1) 10 u_49.1 :: aI cI (pc 1) 3 u_49.2 :: oX7 (pa 2) (pb 2) (pc 2) (zc 2) (zr 2) (zl 2) (zw 2) (zf 2) :: aI cI (pb 2) 10 (zb 2) :: aI cI (pc 2) 3 (zs 2) :: oX7 (pa 3) (pb 3) (pc 3) (zc 3) (zr 3) (zl 3) (zw 3) (zf 3) :: aI cI (pb 3) 10 (zb 3) :: aI cI (pc 3) 3 (zs 3) :: oX7 (pa 4) (pb 4) (pc 4) (zc 4) (zr 4) (zl 4) (zw 4) (zf 4) :: aI cI (pb 4) 10 (zb 4) :: aI cI (pc 4) 3 (zs 4) :: oX7 (pa 5) (pb 5) (pc 5) (zc 5) (zr 5) (zl 5) (zw 5) (zf 5) :: aI cI (pb 5) 10 (zb 5) :: aI cI (pc 5) 3 (zs 5) :: X) H := hP
  have hD : va_D A (oX1 hi 2 hv :: oX7 w wb ws wc wr wl ww wf :: aI cI wb 10 wbl :: aI cI ws 3 wse :: aW cW hv 6 svf :: oX7 (pa 0) (pb 0) (pc 0) (zc 0) (zr 0) (zl 0) (zw 0) (zf 0) :: aI cI (pb 0) 10 (zb 0) :: aI cI (pc 0) 3 (zs 0) :: oX7 (pa 1) (pb 1) (pc 1) wc wr wl ww wf :: aI cI (pb 1) 10 u_49.1 :: aI cI (pc 1) 3 u_49.2 :: oX7 (pa 2) (pb 2) (pc 2) (zc 2) (zr 2) (zl 2) (zw 2) (zf 2) :: aI cI (pb 2) 10 (zb 2) :: aI cI (pc 2) 3 (zs 2) :: oX7 (pa 3) (pb 3) (pc 3) (zc 3) (zr 3) (zl 3) (zw 3) (zf 3) :: aI cI (pb 3) 10 (zb 3) :: aI cI (pc 3) 3 (zs 3) :: oX7 (pa 4) (pb 4) (pc 4) (zc 4) (zr 4) (zl 4) (zw 4) (zf 4) :: aI cI (pb 4) 10 (zb 4) :: aI cI (pc 4) 3 (zs 4) :: oX7 (pa 5) (pb 5) (pc 5) (zc 5) (zr 5) (zl 5) (zw 5) (zf 5) :: aI cI (pb 5) 10 (zb 5) :: aI cI (pc 5) 3 (zs 5) :: X) := hD
  have hP := pm_P hP 23 [0, 1, 2, 3, 4, 5, 6, 7, 8, 9, 10, 11, 12, 13, 14, 15, 16, 17, 18, 19, 20, 21, 22] rfl
  have hD := pm_D hD 23 [0, 1, 2, 3, 4, 5, 6, 7, 8, 9, 10, 11, 12, 13, 14, 15, 16, 17, 18, 19, 20, 21, 22] rfl rfl rfl
  have hPD := blk_back (w := [oX1 hi 2 hv, oX7 w wb ws wc wr wl ww wf, aI cI wb 10 wbl, aI cI ws 3 wse]) (B := [aW cW hv 6 svf, oX7 (pa 0) (pb 0) (pc 0) (zc 0) (zr 0) (zl 0) (zw 0) (zf 0), aI cI (pb 0) 10 (zb 0), aI cI (pc 0) 3 (zs 0), oX7 (pa 1) (pb 1) (pc 1) wc wr wl ww wf, aI cI (pb 1) 10 u_49.1, aI cI (pc 1) 3 u_49.2, oX7 (pa 2) (pb 2) (pc 2) (zc 2) (zr 2) (zl 2) (zw 2) (zf 2), aI cI (pb 2) 10 (zb 2), aI cI (pc 2) 3 (zs 2), oX7 (pa 3) (pb 3) (pc 3) (zc 3) (zr 3) (zl 3) (zw 3) (zf 3), aI cI (pb 3) 10 (zb 3), aI cI (pc 3) 3 (zs 3), oX7 (pa 4) (pb 4) (pc 4) (zc 4) (zr 4) (zl 4) (zw 4) (zf 4), aI cI (pb 4) 10 (zb 4), aI cI (pc 4) 3 (zs 4), oX7 (pa 5) (pb 5) (pc 5) (zc 5) (zr 5) (zl 5) (zw 5) (zf 5), aI cI (pb 5) 10 (zb 5), aI cI (pc 5) 3 (zs 5)]) hP hD
  have hP := hPD.1
  have hD := hPD.2
  have hnew : HistR cI cW hv (pushH hist 1 S) (pushN 1) [aW cW hv 6 svf, oX7 (pa 0) (pb 0) (pc 0) (zc 0) (zr 0) (zl 0) (zw 0) (zf 0), aI cI (pb 0) 10 (zb 0), aI cI (pc 0) 3 (zs 0), oX7 (pa 1) (pb 1) (pc 1) wc wr wl ww wf, aI cI (pb 1) 10 u_49.1, aI cI (pc 1) 3 u_49.2, oX7 (pa 2) (pb 2) (pc 2) (zc 2) (zr 2) (zl 2) (zw 2) (zf 2), aI cI (pb 2) 10 (zb 2), aI cI (pc 2) 3 (zs 2), oX7 (pa 3) (pb 3) (pc 3) (zc 3) (zr 3) (zl 3) (zw 3) (zf 3), aI cI (pb 3) 10 (zb 3), aI cI (pc 3) 3 (zs 3), oX7 (pa 4) (pb 4) (pc 4) (zc 4) (zr 4) (zl 4) (zw 4) (zf 4), aI cI (pb 4) 10 (zb 4), aI cI (pc 4) 3 (zs 4), oX7 (pa 5) (pb 5) (pc 5) (zc 5) (zr 5) (zl 5) (zw 5) (zf 5), aI cI (pb 5) 10 (zb 5), aI cI (pc 5) 3 (zs 5)] := by
    refine ⟨svf, (va_up pa 1 (pa 1)), (va_up pb 1 (pb 1)), (va_up pc 1 (pc 1)), (va_up zb 1 u_49.1), (va_up zs 1 u_49.2), (va_up zc 1 wc), (va_up zr 1 wr), (va_up zl 1 wl), (va_up zw 1 ww), (va_up zf 1 wf), rfl, ?_, by decide, ?_⟩
    · exact fun i hi => by rcases (show i = 0 ∨ i = 1 ∨ i = 2 ∨ i = 3 ∨ i = 4 ∨ i = 5 by omega) with rfl | rfl | rfl | rfl | rfl | rfl <;> first | exact hsv _ (by decide) | exact hq_10.2 | exact hq_10.1 _ (by decide)
    · exact fun i hi => by
        have hi : i < 2 := hi
        show AbsX (if i = 1 then S else hist i) (va_up zb 1 u_49.1 i) (va_up zs 1 u_49.2 i) (va_up zc 1 wc i) (va_up zr 1 wr i) (va_up zl 1 wl i) (va_up zw 1 ww i) (va_up zf 1 wf i)
        by_cases q : i = 1
        · subst q; rw [if_pos rfl]; simp only [up_s]; exact hS0.cong hq_49.1 hq_49.2
        · rw [if_neg q]; simp only [up_n q]; exact hH i (by omega)
  exact W.vret hx hb hr (fun t9 ht9 hW9 => ⟨⟨_, rfl, hnew, by rw [ht9]; exact hP, hD⟩, hS.F ht9⟩) hS.2.2 dX1_save_62
set_option maxHeartbeats 4000000 in
set_option maxRecDepth 100000 in
theorem m_save_2 (l : Launch) (D : va_G) (cI cZ cW cJ : ClassId) (A : Nat → Prop) (X : va_W) (hi hv : Nat) (w wb ws : Nat) (wc wr wl ww wf : Int32) (wbl wse : Nat → Int32) (HR : va_W) (hist : Nat → KS) (S : KS) (hR : HistR cI cW hv hist 2 HR) (hS0 : AbsX S wbl wse wc wr wl ww wf) : Met l yX1_save wsX1_save ({ frames := 2, cells := 0, slots := 0, locals := 61 }) (va_Pc [.ref hi, .ref w] (wd D (tyL cI cZ cW cJ) A (oX1 hi (nI 2) hv :: oX7 w wb ws wc wr wl ww wf :: aI cI wb 10 wbl :: aI cI ws 3 wse :: (X ++ HR)))) (va_Qv (fun (u : va_W) => HistR cI cW hv (pushH hist 2 S) (pushN 2) u) (fun (u : va_W) t => wq D A (oX1 hi (nI (pushN 2)) hv :: oX7 w wb ws wc wr wl ww wf :: aI cI wb 10 wbl :: aI cI ws 3 wse :: (X ++ u)) t) A) 0 0 A := by
  refine Met.ofW (cc := cX1_save) (maxL := 3) (ret := none) (by decide) rfl ?_
  intro p e s m args below meth c s₁ B hml hv
  obtain ⟨rfl, hsz9, hP, hK, hD, hN⟩ := hv
  have hx := B.exec
  have hb := B.bytes
  have hr := B.returns
  have hts := atoms_spec (ws := wsX1_save) B.pre
  have hown : s.vm.findClass RX1 = some m.cls := findClass_of_methodNamed B.named
  have hlocks := B.notSynchronized
  have CF : CallFix p m c cX1_save 3 s _ wsX1_save RX1 := ⟨hx, hb, hml, hown, hts⟩
  have hA : ∀ q : Nat, s.heap.size ≤ q → A q := hsz9
  have hS : va_S A s.heap s.heap [] := va_S.rf
  have hiX1 : ∀ w ∈ u_ws RX1 TX1 2, w ∈ wsX1_save := fun _ h => List.mem_cons_of_mem _ (List.mem_append_left _ (List.mem_append_right _ (h)))
  have hl := lv_entry ([.ref hi, .ref w]) (n := 3) (Nat.le_of_ble_eq_true rfl)
  rw [lg_entry_eq]
  generalize (lg_sl ([.ref hi, .ref w]) ++ List.replicate (3 - (lg_sl ([.ref hi, .ref w])).length) Slot.unset).toArray = ls at hl ⊢
  have hl : lv_has ls 3 [(0, .ref hi), (1, .ref w)] := hl
  show W p l e ({ frames := 2, cells := 0, slots := 0, locals := 61 } : Room) s m (([.ref hi, .ref w] : List Value).toArray) below meth c s.heap [] 0 0 (MQ below (va_Qv (fun (u : va_W) => HistR cI cW hv (pushH hist 2 S) (pushN 2) u) (fun (u : va_W) t => wq D A (oX1 hi (nI (pushN 2)) hv :: oX7 w wb ws wc wr wl ww wf :: aI cI wb 10 wbl :: aI cI ws 3 wse :: (X ++ u)) t) A) (([.ref hi, .ref w] : List Value).toArray) s 0 0 A) (F0 m 0 ls [])
  obtain ⟨svf, pa, pb, pc, zb, zs, zc, zr, zl, zw, zf, rfl, hsv, hn6, hH⟩ := hR
  have hPD := blk_front (w := [oX1 hi 2 hv, oX7 w wb ws wc wr wl ww wf, aI cI wb 10 wbl, aI cI ws 3 wse]) hP hD
  have hP : va_P D vwCl (oX1 hi 2 hv :: oX7 w wb ws wc wr wl ww wf :: aI cI wb 10 wbl :: aI cI ws 3 wse :: aW cW hv 6 svf :: oX7 (pa 0) (pb 0) (pc 0) (zc 0) (zr 0) (zl 0) (zw 0) (zf 0) :: aI cI (pb 0) 10 (zb 0) :: aI cI (pc 0) 3 (zs 0) :: oX7 (pa 1) (pb 1) (pc 1) (zc 1) (zr 1) (zl 1) (zw 1) (zf 1) :: aI cI (pb 1) 10 (zb 1) :: aI cI (pc 1) 3 (zs 1) :: oX7 (pa 2) (pb 2) (pc 2) (zc 2) (zr 2) (zl 2) (zw 2) (zf 2) :: aI cI (pb 2) 10 (zb 2) :: aI cI (pc 2) 3 (zs 2) :: oX7 (pa 3) (pb 3) (pc 3) (zc 3) (zr 3) (zl 3) (zw 3) (zf 3) :: aI cI (pb 3) 10 (zb 3) :: aI cI (pc 3) 3 (zs 3) :: oX7 (pa 4) (pb 4) (pc 4) (zc 4) (zr 4) (zl 4) (zw 4) (zf 4) :: aI cI (pb 4) 10 (zb 4) :: aI cI (pc 4) 3 (zs 4) :: oX7 (pa 5) (pb 5) (pc 5) (zc 5) (zr 5) (zl 5) (zw 5) (zf 5) :: aI cI (pb 5) 10 (zb 5) :: aI cI (pc 5) 3 (zs 5) :: X) s.heap := hPD.1
  have hD : va_D A (oX1 hi 2 hv :: oX7 w wb ws wc wr wl ww wf :: aI cI wb 10 wbl :: aI cI ws 3 wse :: aW cW hv 6 svf :: oX7 (pa 0) (pb 0) (pc 0) (zc 0) (zr 0) (zl 0) (zw 0) (zf 0) :: aI cI (pb 0) 10 (zb 0) :: aI cI (pc 0) 3 (zs 0) :: oX7 (pa 1) (pb 1) (pc 1) (zc 1) (zr 1) (zl 1) (zw 1) (zf 1) :: aI cI (pb 1) 10 (zb 1) :: aI cI (pc 1) 3 (zs 1) :: oX7 (pa 2) (pb 2) (pc 2) (zc 2) (zr 2) (zl 2) (zw 2) (zf 2) :: aI cI (pb 2) 10 (zb 2) :: aI cI (pc 2) 3 (zs 2) :: oX7 (pa 3) (pb 3) (pc 3) (zc 3) (zr 3) (zl 3) (zw 3) (zf 3) :: aI cI (pb 3) 10 (zb 3) :: aI cI (pc 3) 3 (zs 3) :: oX7 (pa 4) (pb 4) (pc 4) (zc 4) (zr 4) (zl 4) (zw 4) (zf 4) :: aI cI (pb 4) 10 (zb 4) :: aI cI (pc 4) 3 (zs 4) :: oX7 (pa 5) (pb 5) (pc 5) (zc 5) (zr 5) (zl 5) (zw 5) (zf 5) :: aI cI (pb 5) 10 (zb 5) :: aI cI (pc 5) 3 (zs 5) :: X) := hPD.2
  refine lv_aload_n hx hb dX1_save_0 rfl (lv_at hl 0 rfl) ?_
  refine va_get (D := D) (ci := 1) (v := .int 2) (C := RX1) (T := TX1) (N := 2) hx hb hts hiX1 hown hK hP 0 rfl rfl 0 (by decide) (hts (.fieldLink RX1 18 "LedgeLeaps$History" "size" "I") (List.mem_of_getElem? (i := 1) rfl)) (fun _ h9 => h9) rfl dX1_save_1 ?_
  refine lv_bipush (v := 6) hx hb dX1_save_4 (by decide) ?_
  have c_6 : (2 : Int32) < 6 := by decide
  refine lv_icmp_lt (tgt := 13) hx hb dX1_save_6 (by decide) (fun _ => ?_) (fun q => absurd c_6 q)
  refine lv_aload_n hx hb dX1_save_13 rfl (lv_at hl 0 rfl) ?_
  refine va_get (D := D) (ci := 1) (v := .int 2) (C := RX1) (T := TX1) (N := 2) hx hb hts hiX1 hown hK hP 0 rfl rfl 0 (by decide) (hts (.fieldLink RX1 18 "LedgeLeaps$History" "size" "I") (List.mem_of_getElem? (i := 1) rfl)) (fun _ h9 => h9) rfl dX1_save_14 ?_
  have c_17 : ¬ (2 : Int32) < 0 := by decide
  refine lv_if_lt (tgt := 41) hx hb dX1_save_17 (by decide) (fun q => absurd q c_17) (fun _ => ?_)
  refine lv_aload_n hx hb dX1_save_20 rfl (lv_at hl 0 rfl) ?_
  refine va_get (D := D) (ci := 1) (v := .int 2) (C := RX1) (T := TX1) (N := 2) hx hb hts hiX1 hown hK hP 0 rfl rfl 0 (by decide) (hts (.fieldLink RX1 18 "LedgeLeaps$History" "size" "I") (List.mem_of_getElem? (i := 1) rfl)) (fun _ h9 => h9) rfl dX1_save_21 ?_
  refine lv_bipush (v := 6) hx hb dX1_save_24 (by decide) ?_
  have c_26 : ¬ (6 : Int32) ≤ 2 := by decide
  refine lv_icmp_ge (tgt := 41) hx hb dX1_save_26 (by decide) (fun q => absurd q c_26) (fun _ => ?_)
  refine lv_aload_n hx hb dX1_save_29 rfl (lv_at hl 0 rfl) ?_
  refine va_get (D := D) (ci := 1) (v := .ref hv) (C := RX1) (T := TX1) (N := 2) hx hb hts hiX1 hown hK hP 0 rfl rfl 1 (by decide) (hts (.fieldLink RX1 11 "LedgeLeaps$History" "saved" "[LLedgeLeaps$World;") (List.mem_of_getElem? (i := 2) rfl)) (fun _ h9 => h9) rfl dX1_save_30 ?_
  refine lv_aload_n hx hb dX1_save_33 rfl (lv_at hl 0 rfl) ?_
  refine va_get (D := D) (ci := 1) (v := .int 2) (C := RX1) (T := TX1) (N := 2) hx hb hts hiX1 hown hK hP 0 rfl rfl 0 (by decide) (hts (.fieldLink RX1 18 "LedgeLeaps$History" "size" "I") (List.mem_of_getElem? (i := 1) rfl)) (fun _ h9 => h9) rfl dX1_save_34 ?_
  refine va_aldr (v := (pa 2)) hx hb hK hP 4 2 rfl rfl (show ¬ ((2 : Int32) < 0 ∨ 6 ≤ (2 : Int32).toNatClampNeg) by decide) (hsv 2 (by decide)) dX1_save_37 ?_
  refine lv_goto (tgt := 42) hx hb dX1_save_38 (by decide) ?_
  refine lv_astore_n (lv' := [(2, .ref (pa 2)), (0, .ref hi), (1, .ref w)]) hx hb dX1_save_42 rfl hl (by decide) rfl (fun ls hl => ?_)
  refine lv_aload_n hx hb dX1_save_43 rfl (lv_at hl 0 rfl) ?_
  refine lv_ifnull hx hb dX1_save_44 ?_
  refine lv_aload_n hx hb dX1_save_47 rfl (lv_at hl 0 rfl) ?_
  refine lv_aload_n hx hb dX1_save_48 rfl (lv_at hl 2 rfl) ?_
  refine cV_v CF hK hN hA hS (cut_of 23 [11, 12, 13, 1, 2, 3, 0, 4, 5, 6, 7, 8, 9, 10, 14, 15, 16, 17, 18, 19, 20, 21, 22] hP hD rfl rfl rfl) (m_becomeLike l D cI cZ cW cJ A (oX1 hi 2 hv :: aW cW hv 6 svf :: oX7 (pa 0) (pb 0) (pc 0) (zc 0) (zr 0) (zl 0) (zw 0) (zf 0) :: aI cI (pb 0) 10 (zb 0) :: aI cI (pc 0) 3 (zs 0) :: oX7 (pa 1) (pb 1) (pc 1) (zc 1) (zr 1) (zl 1) (zw 1) (zf 1) :: aI cI (pb 1) 10 (zb 1) :: aI cI (pc 1) 3 (zs 1) :: oX7 (pa 3) (pb 3) (pc 3) (zc 3) (zr 3) (zl 3) (zw 3) (zf 3) :: aI cI (pb 3) 10 (zb 3) :: aI cI (pc 3) 3 (zs 3) :: oX7 (pa 4) (pb 4) (pc 4) (zc 4) (zr 4) (zl 4) (zw 4) (zf 4) :: aI cI (pb 4) 10 (zb 4) :: aI cI (pc 4) 3 (zs 4) :: oX7 (pa 5) (pb 5) (pc 5) (zc 5) (zr 5) (zl 5) (zw 5) (zf 5) :: aI cI (pb 5) 10 (zb 5) :: aI cI (pc 5) 3 (zs 5) :: X) (pa 2) (pb 2) (pc 2) (zc 2) (zr 2) (zl 2) (zw 2) (zf 2) (zb 2) (zs 2) w wb ws wc wr wl ww wf wbl wse) (cwV 1 hts gX1_save_X7_becomeLike rfl rfl rfl (by decide +kernel) ⟨Nat.le_of_ble_eq_true rfl, Nat.le_of_ble_eq_true rfl⟩) (As := [.ref w]) (rest := []) (ci := 7) (q0 := 0) rfl rfl rfl hl.1 rfl (Nat.le_of_ble_eq_true rfl) dX1_save_49 ⟨Nat.le_of_ble_eq_true rfl, Nat.le_of_ble_eq_true rfl⟩ (fun u_49 H locs hq hP hD hS => ?_)
  have hq_49 : (∀ j, j < 10 → u_49.1 j = wbl j) ∧ (∀ j, j < 3 → u_49.2 j = wse j) := hq
  have hP : va_P D vwCl (oX1 hi 2 hv :: oX7 w wb ws wc wr wl ww wf :: aI cI wb 10 wbl :: aI cI ws 3 wse :: aW cW hv 6 svf :: oX7 (pa 0) (pb 0) (pc 0) (zc 0) (zr 0) (zl 0) (zw 0) (zf 0) :: aI cI (pb 0) 10 (zb 0) :: aI cI (pc 0) 3 (zs 0) :: oX7 (pa 1) (pb 1) (pc 1) (zc 1) (zr 1) (zl 1) (zw 1) (zf 1) :: aI cI (pb 1) 10 (zb 1) :: aI cI (pc 1) 3 (zs 1) :: oX7 (pa 2) (pb 2) (pc 2) wc wr wl ww wf :: aI cI (pb 2) 10 u_49.1 :: aI cI (pc 2) 3 u_49.2 :: oX7 (pa 3) (pb 3) (pc 3) (zc 3) (zr 3) (zl 3) (zw 3) (zf 3) :: aI cI (pb 3) 10 (zb 3) :: aI cI (pc 3) 3 (zs 3) :: oX7 (pa 4) (pb 4) (pc 4) (zc 4) (zr 4) (zl 4) (zw 4) (zf 4) :: aI cI (pb 4) 10 (zb 4) :: aI cI (pc 4) 3 (zs 4) :: oX7 (pa 5) (pb 5) (pc 5) (zc 5) (zr 5) (zl 5) (zw 5) (zf 5) :: aI cI (pb 5) 10 (zb 5) :: aI cI (pc 5) 3 (zs 5) :: X) H := pm_P hP 23 [6, 3, 4, 5, 7, 8, 9, 10, 11, 12, 13, 0, 1, 2, 14, 15, 16, 17, 18, 19, 20, 21, 22] rfl
  have hD : va_D A (oX1 hi 2 hv :: oX7 w wb ws wc wr wl ww wf :: aI cI wb 10 wbl :: aI cI ws 3 wse :: aW cW hv 6 svf :: oX7 (pa 0) (pb 0) (pc 0) (zc 0) (zr 0) (zl 0) (zw 0) (zf 0) :: aI cI (pb 0) 10 (zb 0) :: aI cI (pc 0) 3 (zs 0) :: oX7 (pa 1) (pb 1) (pc 1) (zc 1) (zr 1) (zl 1) (zw 1) (zf 1) :: aI cI (pb 1) 10 (zb 1) :: aI cI (pc 1) 3 (zs 1) :: oX7 (pa 2) (pb 2) (pc 2) wc wr wl ww wf :: aI cI (pb 2) 10 u_49.1 :: aI cI (pc 2) 3 u_49.2 :: oX7 (pa 3) (pb 3) (pc 3) (zc 3) (zr 3) (zl 3) (zw 3) (zf 3) :: aI cI (pb 3) 10 (zb 3) :: aI cI (pc 3) 3 (zs 3) :: oX7 (pa 4) (pb 4) (pc 4) (zc 4) (zr 4) (zl 4) (zw 4) (zf 4) :: aI cI (pb 4) 10 (zb 4) :: aI cI (pc 4) 3 (zs 4) :: oX7 (pa 5) (pb 5) (pc 5) (zc 5) (zr 5) (zl 5) (zw 5) (zf 5) :: aI cI (pb 5) 10 (zb 5) :: aI cI (pc 5) 3 (zs 5) :: X) := pm_D hD 23 [6, 3, 4, 5, 7, 8, 9, 10, 11, 12, 13, 0, 1, 2, 14, 15, 16, 17, 18, 19, 20, 21, 22] rfl rfl rfl
  refine lv_aload_n hx hb dX1_save_52 rfl (lv_at hl 1 rfl) ?_
  refine lv_dup hx hb dX1_save_53 rfl ?_
  refine va_get (D := D) (ci := 1) (v := .int 2) (C := RX1) (T := TX1) (N := 2) hx hb hts hiX1 hown hK hP 0 rfl rfl 0 (by decide) (hts (.fieldLink RX1 18 "LedgeLeaps$History" "size" "I") (List.mem_of_getElem? (i := 1) rfl)) (fun _ h9 => h9) rfl dX1_save_54 ?_
  refine lv_iconst (v := 1) hx hb dX1_save_57 (by decide) ?_
  refine lv_iadd hx hb dX1_save_58 ?_
  refine top_i (y := 3) (by decide) ?_
  refine va_put (D := D) (ci := 1) (v := .int 3) (ty := .int) (C := RX1) (T := TX1) (N := 2) hx hb hts hiX1 tyX1 tyX1_ok nmX1 hown hK hP hD hS 0 rfl rfl 0 (by decide) (hts (.fieldLink RX1 18 "LedgeLeaps$History" "size" "I") (List.mem_of_getElem? (i := 1) rfl)) (fun _ h9 => h9) rfl (by decide +kernel) rfl rfl (Nat.le_of_ble_eq_true rfl) dX1_save_59 (fun H locs hP hD hS => ?_)
  have hP : va_P D vwCl (oX1 hi 3 hv :: oX7 w wb ws wc wr wl ww wf :: aI cI wb 10 wbl :: aI cI ws 3 wse :: aW cW hv 6 svf :: oX7 (pa 0) (pb 0) (pc 0) (zc 0) (zr 0) (zl 0) (zw 0) (zf 0) :: aI cI (pb 0) 10 (zb 0) :: aI cI (pc 0) 3 (zs 0) :: oX7 (pa 1) (pb 1) (pc 1) (zc 1) (zr 1) (zl 1) (zw 1) (zf 1) :: aI cI (pb 1) 10 (zb 1) :: aI cI (pc 1) 3 (zs 1) :: oX7 (pa 2) (pb 2) (pc 2) wc wr wl ww wf :: aI cI (pb 2) 10 u_49.1 :: aI cI (pc 2) 3 u_49.2 :: oX7 (pa 3) (pb 3) (pc 3) (zc 3) (zr 3) (zl 3) (zw 3) (zf 3) :: aI cI (pb 3) 10 (zb 3) :: aI cI (pc 3) 3 (zs 3) :: oX7 (pa 4) (pb 4) (pc 4) (zc 4) (zr 4) (zl 4) (zw 4) (zf 4) :: aI cI (pb 4) 10 (zb 4) :: aI cI (pc 4) 3 (zs 4) :: oX7 (pa 5) (pb 5) (pc 5) (zc 5) (zr 5) (zl 5) (zw 5) (zf 5) :: aI cI (pb 5) 10 (zb 5) :: aI cI (pc 5) 3 (zs 5) :: X) H := hP
  have hD : va_D A (oX1 hi 3 hv :: oX7 w wb ws wc wr wl ww wf :: aI cI wb 10 wbl :: aI cI ws 3 wse :: aW cW hv 6 svf :: oX7 (pa 0) (pb 0) (pc 0) (zc 0) (zr 0) (zl 0) (zw 0) (zf 0) :: aI cI (pb 0) 10 (zb 0) :: aI cI (pc 0) 3 (zs 0) :: oX7 (pa 1) (pb 1) (pc 1) (zc 1) (zr 1) (zl 1) (zw 1) (zf 1) :: aI cI (pb 1) 10 (zb 1) :: aI cI (pc 1) 3 (zs 1) :: oX7 (pa 2) (pb 2) (pc 2) wc wr wl ww wf :: aI cI (pb 2) 10 u_49.1 :: aI cI (pc 2) 3 u_49.2 :: oX7 (pa 3) (pb 3) (pc 3) (zc 3) (zr 3) (zl 3) (zw 3) (zf 3) :: aI cI (pb 3) 10 (zb 3) :: aI cI (pc 3) 3 (zs 3) :: oX7 (pa 4) (pb 4) (pc 4) (zc 4) (zr 4) (zl 4) (zw 4) (zf 4) :: aI cI (pb 4) 10 (zb 4) :: aI cI (pc 4) 3 (zs 4) :: oX7 (pa 5) (pb 5) (pc 5) (zc 5) (zr 5) (zl 5) (zw 5) (zf 5) :: aI cI (pb 5) 10 (zb 5) :: aI cI (pc 5) 3 (zs 5) :: X) := hD
  have hP := pm_P hP 23 [0, 1, 2, 3, 4, 5, 6, 7, 8, 9, 10, 11, 12, 13, 14, 15, 16, 17, 18, 19, 20, 21, 22] rfl
  have hD := pm_D hD 23 [0, 1, 2, 3, 4, 5, 6, 7, 8, 9, 10, 11, 12, 13, 14, 15, 16, 17, 18, 19, 20, 21, 22] rfl rfl rfl
  have hPD := blk_back (w := [oX1 hi 3 hv, oX7 w wb ws wc wr wl ww wf, aI cI wb 10 wbl, aI cI ws 3 wse]) (B := [aW cW hv 6 svf, oX7 (pa 0) (pb 0) (pc 0) (zc 0) (zr 0) (zl 0) (zw 0) (zf 0), aI cI (pb 0) 10 (zb 0), aI cI (pc 0) 3 (zs 0), oX7 (pa 1) (pb 1) (pc 1) (zc 1) (zr 1) (zl 1) (zw 1) (zf 1), aI cI (pb 1) 10 (zb 1), aI cI (pc 1) 3 (zs 1), oX7 (pa 2) (pb 2) (pc 2) wc wr wl ww wf, aI cI (pb 2) 10 u_49.1, aI cI (pc 2) 3 u_49.2, oX7 (pa 3) (pb 3) (pc 3) (zc 3) (zr 3) (zl 3) (zw 3) (zf 3), aI cI (pb 3) 10 (zb 3), aI cI (pc 3) 3 (zs 3), oX7 (pa 4) (pb 4) (pc 4) (zc 4) (zr 4) (zl 4) (zw 4) (zf 4), aI cI (pb 4) 10 (zb 4), aI cI (pc 4) 3 (zs 4), oX7 (pa 5) (pb 5) (pc 5) (zc 5) (zr 5) (zl 5) (zw 5) (zf 5), aI cI (pb 5) 10 (zb 5), aI cI (pc 5) 3 (zs 5)]) hP hD
  have hP := hPD.1
  have hD := hPD.2
  have hnew : HistR cI cW hv (pushH hist 2 S) (pushN 2) [aW cW hv 6 svf, oX7 (pa 0) (pb 0) (pc 0) (zc 0) (zr 0) (zl 0) (zw 0) (zf 0), aI cI (pb 0) 10 (zb 0), aI cI (pc 0) 3 (zs 0), oX7 (pa 1) (pb 1) (pc 1) (zc 1) (zr 1) (zl 1) (zw 1) (zf 1), aI cI (pb 1) 10 (zb 1), aI cI (pc 1) 3 (zs 1), oX7 (pa 2) (pb 2) (pc 2) wc wr wl ww wf, aI cI (pb 2) 10 u_49.1, aI cI (pc 2) 3 u_49.2, oX7 (pa 3) (pb 3) (pc 3) (zc 3) (zr 3) (zl 3) (zw 3) (zf 3), aI cI (pb 3) 10 (zb 3), aI cI (pc 3) 3 (zs 3), oX7 (pa 4) (pb 4) (pc 4) (zc 4) (zr 4) (zl 4) (zw 4) (zf 4), aI cI (pb 4) 10 (zb 4), aI cI (pc 4) 3 (zs 4), oX7 (pa 5) (pb 5) (pc 5) (zc 5) (zr 5) (zl 5) (zw 5) (zf 5), aI cI (pb 5) 10 (zb 5), aI cI (pc 5) 3 (zs 5)] := by
    refine ⟨svf, (va_up pa 2 (pa 2)), (va_up pb 2 (pb 2)), (va_up pc 2 (pc 2)), (va_up zb 2 u_49.1), (va_up zs 2 u_49.2), (va_up zc 2 wc), (va_up zr 2 wr), (va_up zl 2 wl), (va_up zw 2 ww), (va_up zf 2 wf), rfl, ?_, by decide, ?_⟩
    · exact fun i hi => by rcases (show i = 0 ∨ i = 1 ∨ i = 2 ∨ i = 3 ∨ i = 4 ∨ i = 5 by omega) with rfl | rfl | rfl | rfl | rfl | rfl <;> first | exact hsv _ (by decide) | exact hq_10.2 | exact hq_10.1 _ (by decide)
    · exact fun i hi => by
        have hi : i < 3 := hi
        show AbsX (if i = 2 then S else hist i) (va_up zb 2 u_49.1 i) (va_up zs 2 u_49.2 i) (va_up zc 2 wc i) (va_up zr 2 wr i) (va_up zl 2 wl i) (va_up zw 2 ww i) (va_up zf 2 wf i)
        by_cases q : i = 2
        · subst q; rw [if_pos rfl]; simp only [up_s]; exact hS0.cong hq_49.1 hq_49.2
        · rw [if_neg q]; simp only [up_n q]; exact hH i (by omega)
  exact W.vret hx hb hr (fun t9 ht9 hW9 => ⟨⟨_, rfl, hnew, by rw [ht9]; exact hP, hD⟩, hS.F ht9⟩) hS.2.2 dX1_save_62
set_option maxHeartbeats 4000000 in
set_option maxRecDepth 100000 in
theorem m_save_3 (l : Launch) (D : va_G) (cI cZ cW cJ : ClassId) (A : Nat → Prop) (X : va_W) (hi hv : Nat) (w wb ws : Nat) (wc wr wl ww wf : Int32) (wbl wse : Nat → Int32) (HR : va_W) (hist : Nat → KS) (S : KS) (hR : HistR cI cW hv hist 3 HR) (hS0 : AbsX S wbl wse wc wr wl ww wf) : Met l yX1_save wsX1_save ({ frames := 2, cells := 0, slots := 0, locals := 61 }) (va_Pc [.ref hi, .ref w] (wd D (tyL cI cZ cW cJ) A (oX1 hi (nI 3) hv :: oX7 w wb ws wc wr wl ww wf :: aI cI wb 10 wbl :: aI cI ws 3 wse :: (X ++ HR)))) (va_Qv (fun (u : va_W) => HistR cI cW hv (pushH hist 3 S) (pushN 3) u) (fun (u : va_W) t => wq D A (oX1 hi (nI (pushN 3)) hv :: oX7 w wb ws wc wr wl ww wf :: aI cI wb 10 wbl :: aI cI ws 3 wse :: (X ++ u)) t) A) 0 0 A := by
  refine Met.ofW (cc := cX1_save) (maxL := 3) (ret := none) (by decide) rfl ?_
  intro p e s m args below meth c s₁ B hml hv
  obtain ⟨rfl, hsz9, hP, hK, hD, hN⟩ := hv
  have hx := B.exec
  have hb := B.bytes
  have hr := B.returns
  have hts := atoms_spec (ws := wsX1_save) B.pre
  have hown : s.vm.findClass RX1 = some m.cls := findClass_of_methodNamed B.named
  have hlocks := B.notSynchronized
  have CF : CallFix p m c cX1_save 3 s _ wsX1_save RX1 := ⟨hx, hb, hml, hown, hts⟩
  have hA : ∀ q : Nat, s.heap.size ≤ q → A q := hsz9
  have hS : va_S A s.heap s.heap [] := va_S.rf
  have hiX1 : ∀ w ∈ u_ws RX1 TX1 2, w ∈ wsX1_save := fun _ h => List.mem_cons_of_mem _ (List.mem_append_left _ (List.mem_append_right _ (h)))
  have hl := lv_entry ([.ref hi, .ref w]) (n := 3) (Nat.le_of_ble_eq_true rfl)
  rw [lg_entry_eq]
  generalize (lg_sl ([.ref hi, .ref w]) ++ List.replicate (3 - (lg_sl ([.ref hi, .ref w])).length) Slot.unset).toArray = ls at hl ⊢
  have hl : lv_has ls 3 [(0, .ref hi), (1, .ref w)] := hl
  show W p l e ({ frames := 2, cells := 0, slots := 0, locals := 61 } : Room) s m (([.ref hi, .ref w] : List Value).toArray) below meth c s.heap [] 0 0 (MQ below (va_Qv (fun (u : va_W) => HistR cI cW hv (pushH hist 3 S) (pushN 3) u) (fun (u : va_W) t => wq D A (oX1 hi (nI (pushN 3)) hv :: oX7 w wb ws wc wr wl ww wf :: aI cI wb 10 wbl :: aI cI ws 3 wse :: (X ++ u)) t) A) (([.ref hi, .ref w] : List Value).toArray) s 0 0 A) (F0 m 0 ls [])
  obtain ⟨svf, pa, pb, pc, zb, zs, zc, zr, zl, zw, zf, rfl, hsv, hn6, hH⟩ := hR
  have hPD := blk_front (w := [oX1 hi 3 hv, oX7 w wb ws wc wr wl ww wf, aI cI wb 10 wbl, aI cI ws 3 wse]) hP hD
  have hP : va_P D vwCl (oX1 hi 3 hv :: oX7 w wb ws wc wr wl ww wf :: aI cI wb 10 wbl :: aI cI ws 3 wse :: aW cW hv 6 svf :: oX7 (pa 0) (pb 0) (pc 0) (zc 0) (zr 0) (zl 0) (zw 0) (zf 0) :: aI cI (pb 0) 10 (zb 0) :: aI cI (pc 0) 3 (zs 0) :: oX7 (pa 1) (pb 1) (pc 1) (zc 1) (zr 1) (zl 1) (zw 1) (zf 1) :: aI cI (pb 1) 10 (zb 1) :: aI cI (pc 1) 3 (zs 1) :: oX7 (pa 2) (pb 2) (pc 2) (zc 2) (zr 2) (zl 2) (zw 2) (zf 2) :: aI cI (pb 2) 10 (zb 2) :: aI cI (pc 2) 3 (zs 2) :: oX7 (pa 3) (pb 3) (pc 3) (zc 3) (zr 3) (zl 3) (zw 3) (zf 3) :: aI cI (pb 3) 10 (zb 3) :: aI cI (pc 3) 3 (zs 3) :: oX7 (pa 4) (pb 4) (pc 4) (zc 4) (zr 4) (zl 4) (zw 4) (zf 4) :: aI cI (pb 4) 10 (zb 4) :: aI cI (pc 4) 3 (zs 4) :: oX7 (pa 5) (pb 5) (pc 5) (zc 5) (zr 5) (zl 5) (zw 5) (zf 5) :: aI cI (pb 5) 10 (zb 5) :: aI cI (pc 5) 3 (zs 5) :: X) s.heap := hPD.1
  have hD : va_D A (oX1 hi 3 hv :: oX7 w wb ws wc wr wl ww wf :: aI cI wb 10 wbl :: aI cI ws 3 wse :: aW cW hv 6 svf :: oX7 (pa 0) (pb 0) (pc 0) (zc 0) (zr 0) (zl 0) (zw 0) (zf 0) :: aI cI (pb 0) 10 (zb 0) :: aI cI (pc 0) 3 (zs 0) :: oX7 (pa 1) (pb 1) (pc 1) (zc 1) (zr 1) (zl 1) (zw 1) (zf 1) :: aI cI (pb 1) 10 (zb 1) :: aI cI (pc 1) 3 (zs 1) :: oX7 (pa 2) (pb 2) (pc 2) (zc 2) (zr 2) (zl 2) (zw 2) (zf 2) :: aI cI (pb 2) 10 (zb 2) :: aI cI (pc 2) 3 (zs 2) :: oX7 (pa 3) (pb 3) (pc 3) (zc 3) (zr 3) (zl 3) (zw 3) (zf 3) :: aI cI (pb 3) 10 (zb 3) :: aI cI (pc 3) 3 (zs 3) :: oX7 (pa 4) (pb 4) (pc 4) (zc 4) (zr 4) (zl 4) (zw 4) (zf 4) :: aI cI (pb 4) 10 (zb 4) :: aI cI (pc 4) 3 (zs 4) :: oX7 (pa 5) (pb 5) (pc 5) (zc 5) (zr 5) (zl 5) (zw 5) (zf 5) :: aI cI (pb 5) 10 (zb 5) :: aI cI (pc 5) 3 (zs 5) :: X) := hPD.2
  refine lv_aload_n hx hb dX1_save_0 rfl (lv_at hl 0 rfl) ?_
  refine va_get (D := D) (ci := 1) (v := .int 3) (C := RX1) (T := TX1) (N := 2) hx hb hts hiX1 hown hK hP 0 rfl rfl 0 (by decide) (hts (.fieldLink RX1 18 "LedgeLeaps$History" "size" "I") (List.mem_of_getElem? (i := 1) rfl)) (fun _ h9 => h9) rfl dX1_save_1 ?_
  refine lv_bipush (v := 6) hx hb dX1_save_4 (by decide) ?_
  have c_6 : (3 : Int32) < 6 := by decide
  refine lv_icmp_lt (tgt := 13) hx hb dX1_save_6 (by decide) (fun _ => ?_) (fun q => absurd c_6 q)
  refine lv_aload_n hx hb dX1_save_13 rfl (lv_at hl 0 rfl) ?_
  refine va_get (D := D) (ci := 1) (v := .int 3) (C := RX1) (T := TX1) (N := 2) hx hb hts hiX1 hown hK hP 0 rfl rfl 0 (by decide) (hts (.fieldLink RX1 18 "LedgeLeaps$History" "size" "I") (List.mem_of_getElem? (i := 1) rfl)) (fun _ h9 => h9) rfl dX1_save_14 ?_
  have c_17 : ¬ (3 : Int32) < 0 := by decide
  refine lv_if_lt (tgt := 41) hx hb dX1_save_17 (by decide) (fun q => absurd q c_17) (fun _ => ?_)
  refine lv_aload_n hx hb dX1_save_20 rfl (lv_at hl 0 rfl) ?_
  refine va_get (D := D) (ci := 1) (v := .int 3) (C := RX1) (T := TX1) (N := 2) hx hb hts hiX1 hown hK hP 0 rfl rfl 0 (by decide) (hts (.fieldLink RX1 18 "LedgeLeaps$History" "size" "I") (List.mem_of_getElem? (i := 1) rfl)) (fun _ h9 => h9) rfl dX1_save_21 ?_
  refine lv_bipush (v := 6) hx hb dX1_save_24 (by decide) ?_
  have c_26 : ¬ (6 : Int32) ≤ 3 := by decide
  refine lv_icmp_ge (tgt := 41) hx hb dX1_save_26 (by decide) (fun q => absurd q c_26) (fun _ => ?_)
  refine lv_aload_n hx hb dX1_save_29 rfl (lv_at hl 0 rfl) ?_
  refine va_get (D := D) (ci := 1) (v := .ref hv) (C := RX1) (T := TX1) (N := 2) hx hb hts hiX1 hown hK hP 0 rfl rfl 1 (by decide) (hts (.fieldLink RX1 11 "LedgeLeaps$History" "saved" "[LLedgeLeaps$World;") (List.mem_of_getElem? (i := 2) rfl)) (fun _ h9 => h9) rfl dX1_save_30 ?_
  refine lv_aload_n hx hb dX1_save_33 rfl (lv_at hl 0 rfl) ?_
  refine va_get (D := D) (ci := 1) (v := .int 3) (C := RX1) (T := TX1) (N := 2) hx hb hts hiX1 hown hK hP 0 rfl rfl 0 (by decide) (hts (.fieldLink RX1 18 "LedgeLeaps$History" "size" "I") (List.mem_of_getElem? (i := 1) rfl)) (fun _ h9 => h9) rfl dX1_save_34 ?_
  refine va_aldr (v := (pa 3)) hx hb hK hP 4 2 rfl rfl (show ¬ ((3 : Int32) < 0 ∨ 6 ≤ (3 : Int32).toNatClampNeg) by decide) (hsv 3 (by decide)) dX1_save_37 ?_
  refine lv_goto (tgt := 42) hx hb dX1_save_38 (by decide) ?_
  refine lv_astore_n (lv' := [(2, .ref (pa 3)), (0, .ref hi), (1, .ref w)]) hx hb dX1_save_42 rfl hl (by decide) rfl (fun ls hl => ?_)
  refine lv_aload_n hx hb dX1_save_43 rfl (lv_at hl 0 rfl) ?_
  refine lv_ifnull hx hb dX1_save_44 ?_
  refine lv_aload_n hx hb dX1_save_47 rfl (lv_at hl 0 rfl) ?_
  refine lv_aload_n hx hb dX1_save_48 rfl (lv_at hl 2 rfl) ?_
  refine cV_v CF hK hN hA hS (cut_of 23 [14, 15, 16, 1, 2, 3, 0, 4, 5, 6, 7, 8, 9, 10, 11, 12, 13, 17, 18, 19, 20, 21, 22] hP hD rfl rfl rfl) (m_becomeLike l D cI cZ cW cJ A (oX1 hi 3 hv :: aW cW hv 6 svf :: oX7 (pa 0) (pb 0) (pc 0) (zc 0) (zr 0) (zl 0) (zw 0) (zf 0) :: aI cI (pb 0) 10 (zb 0) :: aI cI (pc 0) 3 (zs 0) :: oX7 (pa 1) (pb 1) (pc 1) (zc 1) (zr 1) (zl 1) (zw 1) (zf 1) :: aI cI (pb 1) 10 (zb 1) :: aI cI (pc 1) 3 (zs 1) :: oX7 (pa 2) (pb 2) (pc 2) (zc 2) (zr 2) (zl 2) (zw 2) (zf 2) :: aI cI (pb 2) 10 (zb 2) :: aI cI (pc 2) 3 (zs 2) :: oX7 (pa 4) (pb 4) (pc 4) (zc 4) (zr 4) (zl 4) (zw 4) (zf 4) :: aI cI (pb 4) 10 (zb 4) :: aI cI (pc 4) 3 (zs 4) :: oX7 (pa 5) (pb 5) (pc 5) (zc 5) (zr 5) (zl 5) (zw 5) (zf 5) :: aI cI (pb 5) 10 (zb 5) :: aI cI (pc 5) 3 (zs 5) :: X) (pa 3) (pb 3) (pc 3) (zc 3) (zr 3) (zl 3) (zw 3) (zf 3) (zb 3) (zs 3) w wb ws wc wr wl ww wf wbl wse) (cwV 1 hts gX1_save_X7_becomeLike rfl rfl rfl (by decide +kernel) ⟨Nat.le_of_ble_eq_true rfl, Nat.le_of_ble_eq_true rfl⟩) (As := [.ref w]) (rest := []) (ci := 7) (q0 := 0) rfl rfl rfl hl.1 rfl (Nat.le_of_ble_eq_true rfl) dX1_save_49 ⟨Nat.le_of_ble_eq_true rfl, Nat.le_of_ble_eq_true rfl⟩ (fun u_49 H locs hq hP hD hS => ?_)
  have hq_49 : (∀ j, j < 10 → u_49.1 j = wbl j) ∧ (∀ j, j < 3 → u_49.2 j = wse j) := hq
  have hP : va_P D vwCl (oX1 hi 3 hv :: oX7 w wb ws wc wr wl ww wf :: aI cI wb 10 wbl :: aI cI ws 3 wse :: aW cW hv 6 svf :: oX7 (pa 0) (pb 0) (pc 0) (zc 0) (zr 0) (zl 0) (zw 0) (zf 0) :: aI cI (pb 0) 10 (zb 0) :: aI cI (pc 0) 3 (zs 0) :: oX7 (pa 1) (pb 1) (pc 1) (zc 1) (zr 1) (zl 1) (zw 1) (zf 1) :: aI cI (pb 1) 10 (zb 1) :: aI cI (pc 1) 3 (zs 1) :: oX7 (pa 2) (pb 2) (pc 2) (zc 2) (zr 2) (zl 2) (zw 2) (zf 2) :: aI cI (pb 2) 10 (zb 2) :: aI cI (pc 2) 3 (zs 2) :: oX7 (pa 3) (pb 3) (pc 3) wc wr wl ww wf :: aI cI (pb 3) 10 u_49.1 :: aI cI (pc 3) 3 u_49.2 :: oX7 (pa 4) (pb 4) (pc 4) (zc 4) (zr 4) (zl 4) (zw 4) (zf 4) :: aI cI (pb 4) 10 (zb 4) :: aI cI (pc 4) 3 (zs 4) :: oX7 (pa 5) (pb 5) (pc 5) (zc 5) (zr 5) (zl 5) (zw 5) (zf 5) :: aI cI (pb 5) 10 (zb 5) :: aI cI (pc 5) 3 (zs 5) :: X) H := pm_P hP 23 [6, 3, 4, 5, 7, 8, 9, 10, 11, 12, 13, 14, 15, 16, 0, 1, 2, 17, 18, 19, 20, 21, 22] rfl
  have hD : va_D A (oX1 hi 3 hv :: oX7 w wb ws wc wr wl ww wf :: aI cI wb 10 wbl :: aI cI ws 3 wse :: aW cW hv 6 svf :: oX7 (pa 0) (pb 0) (pc 0) (zc 0) (zr 0) (zl 0) (zw 0) (zf 0) :: aI cI (pb 0) 10 (zb 0) :: aI cI (pc 0) 3 (zs 0) :: oX7 (pa 1) (pb 1) (pc 1) (zc 1) (zr 1) (zl 1) (zw 1) (zf 1) :: aI cI (pb 1) 10 (zb 1) :: aI cI (pc 1) 3 (zs 1) :: oX7 (pa 2) (pb 2) (pc 2) (zc 2) (zr 2) (zl 2) (zw 2) (zf 2) :: aI cI (pb 2) 10 (zb 2) :: aI cI (pc 2) 3 (zs 2) :: oX7 (pa 3) (pb 3) (pc 3) wc wr wl ww wf :: aI cI (pb 3) 10 u_49.1 :: aI cI (pc 3) 3 u_49.2 :: oX7 (pa 4) (pb 4) (pc 4) (zc 4) (zr 4) (zl 4) (zw 4) (zf 4) :: aI cI (pb 4) 10 (zb 4) :: aI cI (pc 4) 3 (zs 4) :: oX7 (pa 5) (pb 5) (pc 5) (zc 5) (zr 5) (zl 5) (zw 5) (zf 5) :: aI cI (pb 5) 10 (zb 5) :: aI cI (pc 5) 3 (zs 5) :: X) := pm_D hD 23 [6, 3, 4, 5, 7, 8, 9, 10, 11, 12, 13, 14, 15, 16, 0, 1, 2, 17, 18, 19, 20, 21, 22] rfl rfl rfl
  refine lv_aload_n hx hb dX1_save_52 rfl (lv_at hl 1 rfl) ?_
  refine lv_dup hx hb dX1_save_53 rfl ?_
  refine va_get (D := D) (ci := 1) (v := .int 3) (C := RX1) (T := TX1) (N := 2) hx hb hts hiX1 hown hK hP 0 rfl rfl 0 (by decide) (hts (.fieldLink RX1 18 "LedgeLeaps$History" "size" "I") (List.mem_of_getElem? (i := 1) rfl)) (fun _ h9 => h9) rfl dX1_save_54 ?_
  refine lv_iconst (v := 1) hx hb dX1_save_57 (by decide) ?_
  refine lv_iadd hx hb dX1_save_58 ?_
  refine top_i (y := 4) (by decide) ?_
  refine va_put (D := D) (ci := 1) (v := .int 4) (ty := .int) (C := RX1) (T := TX1) (N := 2) hx hb hts hiX1 tyX1 tyX1_ok nmX1 hown hK hP hD hS 0 rfl rfl 0 (by decide) (hts (.fieldLink RX1 18 "LedgeLeaps$History" "size" "I") (List.mem_of_getElem? (i := 1) rfl)) (fun _ h9 => h9) rfl (by decide +kernel) rfl rfl (Nat.le_of_ble_eq_true rfl) dX1_save_59 (fun H locs hP hD hS => ?_)
  have hP : va_P D vwCl (oX1 hi 4 hv :: oX7 w wb ws wc wr wl ww wf :: aI cI wb 10 wbl :: aI cI ws 3 wse :: aW cW hv 6 svf :: oX7 (pa 0) (pb 0) (pc 0) (zc 0) (zr 0) (zl 0) (zw 0) (zf 0) :: aI cI (pb 0) 10 (zb 0) :: aI cI (pc 0) 3 (zs 0) :: oX7 (pa 1) (pb 1) (pc 1) (zc 1) (zr 1) (zl 1) (zw 1) (zf 1) :: aI cI (pb 1) 10 (zb 1) :: aI cI (pc 1) 3 (zs 1) :: oX7 (pa 2) (pb 2) (pc 2) (zc 2) (zr 2) (zl 2) (zw 2) (zf 2) :: aI cI (pb 2) 10 (zb 2) :: aI cI (pc 2) 3 (zs 2) :: oX7 (pa 3) (pb 3) (pc 3) wc wr wl ww wf :: aI cI (pb 3) 10 u_49.1 :: aI cI (pc 3) 3 u_49.2 :: oX7 (pa 4) (pb 4) (pc 4) (zc 4) (zr 4) (zl 4) (zw 4) (zf 4) :: aI cI (pb 4) 10 (zb 4) :: aI cI (pc 4) 3 (zs 4) :: oX7 (pa 5) (pb 5) (pc 5) (zc 5) (zr 5) (zl 5) (zw 5) (zf 5) :: aI cI (pb 5) 10 (zb 5) :: aI cI (pc 5) 3 (zs 5) :: X) H := hP
  have hD : va_D A (oX1 hi 4 hv :: oX7 w wb ws wc wr wl ww wf :: aI cI wb 10 wbl :: aI cI ws 3 wse :: aW cW hv 6 svf :: oX7 (pa 0) (pb 0) (pc 0) (zc 0) (zr 0) (zl 0) (zw 0) (zf 0) :: aI cI (pb 0) 10 (zb 0) :: aI cI (pc 0) 3 (zs 0) :: oX7 (pa 1) (pb 1) (pc 1) (zc 1) (zr 1) (zl 1) (zw 1) (zf 1) :: aI cI (pb 1) 10 (zb 1) :: aI cI (pc 1) 3 (zs 1) :: oX7 (pa 2) (pb 2) (pc 2) (zc 2) (zr 2) (zl 2) (zw 2) (zf 2) :: aI cI (pb 2) 10 (zb 2) :: aI cI (pc 2) 3 (zs 2) :: oX7 (pa 3) (pb 3) (pc 3) wc wr wl ww wf :: aI cI (pb 3) 10 u_49.1 :: aI cI (pc 3) 3 u_49.2 :: oX7 (pa 4) (pb 4) (pc 4) (zc 4) (zr 4) (zl 4) (zw 4) (zf 4) :: aI cI (pb 4) 10 (zb 4) :: aI cI (pc 4) 3 (zs 4) :: oX7 (pa 5) (pb 5) (pc 5) (zc 5) (zr 5) (zl 5) (zw 5) (zf 5) :: aI cI (pb 5) 10 (zb 5) :: aI cI (pc 5) 3 (zs 5) :: X) := hD
  have hP := pm_P hP 23 [0, 1, 2, 3, 4, 5, 6, 7, 8, 9, 10, 11, 12, 13, 14, 15, 16, 17, 18, 19, 20, 21, 22] rfl
  have hD := pm_D hD 23 [0, 1, 2, 3, 4, 5, 6, 7, 8, 9, 10, 11, 12, 13, 14, 15, 16, 17, 18, 19, 20, 21, 22] rfl rfl rfl
  have hPD := blk_back (w := [oX1 hi 4 hv, oX7 w wb ws wc wr wl ww wf, aI cI wb 10 wbl, aI cI ws 3 wse]) (B := [aW cW hv 6 svf, oX7 (pa 0) (pb 0) (pc 0) (zc 0) (zr 0) (zl 0) (zw 0) (zf 0), aI cI (pb 0) 10 (zb 0), aI cI (pc 0) 3 (zs 0), oX7 (pa 1) (pb 1) (pc 1) (zc 1) (zr 1) (zl 1) (zw 1) (zf 1), aI cI (pb 1) 10 (zb 1), aI cI (pc 1) 3 (zs 1), oX7 (pa 2) (pb 2) (pc 2) (zc 2) (zr 2) (zl 2) (zw 2) (zf 2), aI cI (pb 2) 10 (zb 2), aI cI (pc 2) 3 (zs 2), oX7 (pa 3) (pb 3) (pc 3) wc wr wl ww wf, aI cI (pb 3) 10 u_49.1, aI cI (pc 3) 3 u_49.2, oX7 (pa 4) (pb 4) (pc 4) (zc 4) (zr 4) (zl 4) (zw 4) (zf 4), aI cI (pb 4) 10 (zb 4), aI cI (pc 4) 3 (zs 4), oX7 (pa 5) (pb 5) (pc 5) (zc 5) (zr 5) (zl 5) (zw 5) (zf 5), aI cI (pb 5) 10 (zb 5), aI cI (pc 5) 3 (zs 5)]) hP hD
  have hP := hPD.1
  have hD := hPD.2
  have hnew : HistR cI cW hv (pushH hist 3 S) (pushN 3) [aW cW hv 6 svf, oX7 (pa 0) (pb 0) (pc 0) (zc 0) (zr 0) (zl 0) (zw 0) (zf 0), aI cI (pb 0) 10 (zb 0), aI cI (pc 0) 3 (zs 0), oX7 (pa 1) (pb 1) (pc 1) (zc 1) (zr 1) (zl 1) (zw 1) (zf 1), aI cI (pb 1) 10 (zb 1), aI cI (pc 1) 3 (zs 1), oX7 (pa 2) (pb 2) (pc 2) (zc 2) (zr 2) (zl 2) (zw 2) (zf 2), aI cI (pb 2) 10 (zb 2), aI cI (pc 2) 3 (zs 2), oX7 (pa 3) (pb 3) (pc 3) wc wr wl ww wf, aI cI (pb 3) 10 u_49.1, aI cI (pc 3) 3 u_49.2, oX7 (pa 4) (pb 4) (pc 4) (zc 4) (zr 4) (zl 4) (zw 4) (zf 4), aI cI (pb 4) 10 (zb 4), aI cI (pc 4) 3 (zs 4), oX7 (pa 5) (pb 5) (pc 5) (zc 5) (zr 5) (zl 5) (zw 5) (zf 5), aI cI (pb 5) 10 (zb 5), aI cI (pc 5) 3 (zs 5)] := by
    refine ⟨svf, (va_up pa 3 (pa 3)), (va_up pb 3 (pb 3)), (va_up pc 3 (pc 3)), (va_up zb 3 u_49.1), (va_up zs 3 u_49.2), (va_up zc 3 wc), (va_up zr 3 wr), (va_up zl 3 wl), (va_up zw 3 ww), (va_up zf 3 wf), rfl, ?_, by decide, ?_⟩
    · exact fun i hi => by rcases (show i = 0 ∨ i = 1 ∨ i = 2 ∨ i = 3 ∨ i = 4 ∨ i = 5 by omega) with rfl | rfl | rfl | rfl | rfl | rfl <;> first | exact hsv _ (by decide) | exact hq_10.2 | exact hq_10.1 _ (by decide)
    · exact fun i hi => by
        have hi : i < 4 := hi
        show AbsX (if i = 3 then S else hist i) (va_up zb 3 u_49.1 i) (va_up zs 3 u_49.2 i) (va_up zc 3 wc i) (va_up zr 3 wr i) (va_up zl 3 wl i) (va_up zw 3 ww i) (va_up zf 3 wf i)
        by_cases q : i = 3
        · subst q; rw [if_pos rfl]; simp only [up_s]; exact hS0.cong hq_49.1 hq_49.2
        · rw [if_neg q]; simp only [up_n q]; exact hH i (by omega)
  exact W.vret hx hb hr (fun t9 ht9 hW9 => ⟨⟨_, rfl, hnew, by rw [ht9]; exact hP, hD⟩, hS.F ht9⟩) hS.2.2 dX1_save_62
set_option maxHeartbeats 4000000 in
set_option maxRecDepth 100000 in
theorem m_save_4 (l : Launch) (D : va_G) (cI cZ cW cJ : ClassId) (A : Nat → Prop) (X : va_W) (hi hv : Nat) (w wb ws : Nat) (wc wr wl ww wf : Int32) (wbl wse : Nat → Int32) (HR : va_W) (hist : Nat → KS) (S : KS) (hR : HistR cI cW hv hist 4 HR) (hS0 : AbsX S wbl wse wc wr wl ww wf) : Met l yX1_save wsX1_save ({ frames := 2, cells := 0, slots := 0, locals := 61 }) (va_Pc [.ref hi, .ref w] (wd D (tyL cI cZ cW cJ) A (oX1 hi (nI 4) hv :: oX7 w wb ws wc wr wl ww wf :: aI cI wb 10 wbl :: aI cI ws 3 wse :: (X ++ HR)))) (va_Qv (fun (u : va_W) => HistR cI cW hv (pushH hist 4 S) (pushN 4) u) (fun (u : va_W) t => wq D A (oX1 hi (nI (pushN 4)) hv :: oX7 w wb ws wc wr wl ww wf :: aI cI wb 10 wbl :: aI cI ws 3 wse :: (X ++ u)) t) A) 0 0 A := by
  refine Met.ofW (cc := cX1_save) (maxL := 3) (ret := none) (by decide) rfl ?_
  intro p e s m args below meth c s₁ B hml hv
  obtain ⟨rfl, hsz9, hP, hK, hD, hN⟩ := hv
  have hx := B.exec
  have hb := B.bytes
  have hr := B.returns
  have hts := atoms_spec (ws := wsX1_save) B.pre
  have hown : s.vm.findClass RX1 = some m.cls := findClass_of_methodNamed B.named
  have hlocks := B.notSynchronized
  have CF : CallFix p m c cX1_save 3 s _ wsX1_save RX1 := ⟨hx, hb, hml, hown, hts⟩
  have hA : ∀ q : Nat, s.heap.size ≤ q → A q := hsz9
  have hS : va_S A s.heap s.heap [] := va_S.rf
  have hiX1 : ∀ w ∈ u_ws RX1 TX1 2, w ∈ wsX1_save := fun _ h => List.mem_cons_of_mem _ (List.mem_append_left _ (List.mem_append_right _ (h)))
  have hl := lv_entry ([.ref hi, .ref w]) (n := 3) (Nat.le_of_ble_eq_true rfl)
  rw [lg_entry_eq]
  generalize (lg_sl ([.ref hi, .ref w]) ++ List.replicate (3 - (lg_sl ([.ref hi, .ref w])).length) Slot.unset).toArray = ls at hl ⊢
  have hl : lv_has ls 3 [(0, .ref hi), (1, .ref w)] := hl
  show W p l e ({ frames := 2, cells := 0, slots := 0, locals := 61 } : Room) s m (([.ref hi, .ref w] : List Value).toArray) below meth c s.heap [] 0 0 (MQ below (va_Qv (fun (u : va_W) => HistR cI cW hv (pushH hist 4 S) (pushN 4) u) (fun (u : va_W) t => wq D A (oX1 hi (nI (pushN 4)) hv :: oX7 w wb ws wc wr wl ww wf :: aI cI wb 10 wbl :: aI cI ws 3 wse :: (X ++ u)) t) A) (([.ref hi, .ref w] : List Value).toArray) s 0 0 A) (F0 m 0 ls [])
  obtain ⟨svf, pa, pb, pc, zb, zs, zc, zr, zl, zw, zf, rfl, hsv, hn6, hH⟩ := hR
  have hPD := blk_front (w := [oX1 hi 4 hv, oX7 w wb ws wc wr wl ww wf, aI cI wb 10 wbl, aI cI ws 3 wse]) hP hD
  have hP : va_P D vwCl (oX1 hi 4 hv :: oX7 w wb ws wc wr wl ww wf :: aI cI wb 10 wbl :: aI cI ws 3 wse :: aW cW hv 6 svf :: oX7 (pa 0) (pb 0) (pc 0) (zc 0) (zr 0) (zl 0) (zw 0) (zf 0) :: aI cI (pb 0) 10 (zb 0) :: aI cI (pc 0) 3 (zs 0) :: oX7 (pa 1) (pb 1) (pc 1) (zc 1) (zr 1) (zl 1) (zw 1) (zf 1) :: aI cI (pb 1) 10 (zb 1) :: aI cI (pc 1) 3 (zs 1) :: oX7 (pa 2) (pb 2) (pc 2) (zc 2) (zr 2) (zl 2) (zw 2) (zf 2) :: aI cI (pb 2) 10 (zb 2) :: aI cI (pc 2) 3 (zs 2) :: oX7 (pa 3) (pb 3) (pc 3) (zc 3) (zr 3) (zl 3) (zw 3) (zf 3) :: aI cI (pb 3) 10 (zb 3) :: aI cI (pc 3) 3 (zs 3) :: oX7 (pa 4) (pb 4) (pc 4) (zc 4) (zr 4) (zl 4) (zw 4) (zf 4) :: aI cI (pb 4) 10 (zb 4) :: aI cI (pc 4) 3 (zs 4) :: oX7 (pa 5) (pb 5) (pc 5) (zc 5) (zr 5) (zl 5) (zw 5) (zf 5) :: aI cI (pb 5) 10 (zb 5) :: aI cI (pc 5) 3 (zs 5) :: X) s.heap := hPD.1
  have hD : va_D A (oX1 hi 4 hv :: oX7 w wb ws wc wr wl ww wf :: aI cI wb 10 wbl :: aI cI ws 3 wse :: aW cW hv 6 svf :: oX7 (pa 0) (pb 0) (pc 0) (zc 0) (zr 0) (zl 0) (zw 0) (zf 0) :: aI cI (pb 0) 10 (zb 0) :: aI cI (pc 0) 3 (zs 0) :: oX7 (pa 1) (pb 1) (pc 1) (zc 1) (zr 1) (zl 1) (zw 1) (zf 1) :: aI cI (pb 1) 10 (zb 1) :: aI cI (pc 1) 3 (zs 1) :: oX7 (pa 2) (pb 2) (pc 2) (zc 2) (zr 2) (zl 2) (zw 2) (zf 2) :: aI cI (pb 2) 10 (zb 2) :: aI cI (pc 2) 3 (zs 2) :: oX7 (pa 3) (pb 3) (pc 3) (zc 3) (zr 3) (zl 3) (zw 3) (zf 3) :: aI cI (pb 3) 10 (zb 3) :: aI cI (pc 3) 3 (zs 3) :: oX7 (pa 4) (pb 4) (pc 4) (zc 4) (zr 4) (zl 4) (zw 4) (zf 4) :: aI cI (pb 4) 10 (zb 4) :: aI cI (pc 4) 3 (zs 4) :: oX7 (pa 5) (pb 5) (pc 5) (zc 5) (zr 5) (zl 5) (zw 5) (zf 5) :: aI cI (pb 5) 10 (zb 5) :: aI cI (pc 5) 3 (zs 5) :: X) := hPD.2
  refine lv_aload_n hx hb dX1_save_0 rfl (lv_at hl 0 rfl) ?_
  refine va_get (D := D) (ci := 1) (v := .int 4) (C := RX1) (T := TX1) (N := 2) hx hb hts hiX1 hown hK hP 0 rfl rfl 0 (by decide) (hts (.fieldLink RX1 18 "LedgeLeaps$History" "size" "I") (List.mem_of_getElem? (i := 1) rfl)) (fun _ h9 => h9) rfl dX1_save_1 ?_
  refine lv_bipush (v := 6) hx hb dX1_save_4 (by decide) ?_
  have c_6 : (4 : Int32) < 6 := by decide
  refine lv_icmp_lt (tgt := 13) hx hb dX1_save_6 (by decide) (fun _ => ?_) (fun q => absurd c_6 q)
  refine lv_aload_n hx hb dX1_save_13 rfl (lv_at hl 0 rfl) ?_
  refine va_get (D := D) (ci := 1) (v := .int 4) (C := RX1) (T := TX1) (N := 2) hx hb hts hiX1 hown hK hP 0 rfl rfl 0 (by decide) (hts (.fieldLink RX1 18 "LedgeLeaps$History" "size" "I") (List.mem_of_getElem? (i := 1) rfl)) (fun _ h9 => h9) rfl dX1_save_14 ?_
  have c_17 : ¬ (4 : Int32) < 0 := by decide
  refine lv_if_lt (tgt := 41) hx hb dX1_save_17 (by decide) (fun q => absurd q c_17) (fun _ => ?_)
  refine lv_aload_n hx hb dX1_save_20 rfl (lv_at hl 0 rfl) ?_
  refine va_get (D := D) (ci := 1) (v := .int 4) (C := RX1) (T := TX1) (N := 2) hx hb hts hiX1 hown hK hP 0 rfl rfl 0 (by decide) (hts (.fieldLink RX1 18 "LedgeLeaps$History" "size" "I") (List.mem_of_getElem? (i := 1) rfl)) (fun _ h9 => h9) rfl dX1_save_21 ?_
  refine lv_bipush (v := 6) hx hb dX1_save_24 (by decide) ?_
  have c_26 : ¬ (6 : Int32) ≤ 4 := by decide
  refine lv_icmp_ge (tgt := 41) hx hb dX1_save_26 (by decide) (fun q => absurd q c_26) (fun _ => ?_)
  refine lv_aload_n hx hb dX1_save_29 rfl (lv_at hl 0 rfl) ?_
  refine va_get (D := D) (ci := 1) (v := .ref hv) (C := RX1) (T := TX1) (N := 2) hx hb hts hiX1 hown hK hP 0 rfl rfl 1 (by decide) (hts (.fieldLink RX1 11 "LedgeLeaps$History" "saved" "[LLedgeLeaps$World;") (List.mem_of_getElem? (i := 2) rfl)) (fun _ h9 => h9) rfl dX1_save_30 ?_
  refine lv_aload_n hx hb dX1_save_33 rfl (lv_at hl 0 rfl) ?_
  refine va_get (D := D) (ci := 1) (v := .int 4) (C := RX1) (T := TX1) (N := 2) hx hb hts hiX1 hown hK hP 0 rfl rfl 0 (by decide) (hts (.fieldLink RX1 18 "LedgeLeaps$History" "size" "I") (List.mem_of_getElem? (i := 1) rfl)) (fun _ h9 => h9) rfl dX1_save_34 ?_
  refine va_aldr (v := (pa 4)) hx hb hK hP 4 2 rfl rfl (show ¬ ((4 : Int32) < 0 ∨ 6 ≤ (4 : Int32).toNatClampNeg) by decide) (hsv 4 (by decide)) dX1_save_37 ?_
  refine lv_goto (tgt := 42) hx hb dX1_save_38 (by decide) ?_
  refine lv_astore_n (lv' := [(2, .ref (pa 4)), (0, .ref hi), (1, .ref w)]) hx hb dX1_save_42 rfl hl (by decide) rfl (fun ls hl => ?_)
  refine lv_aload_n hx hb dX1_save_43 rfl (lv_at hl 0 rfl) ?_
  refine lv_ifnull hx hb dX1_save_44 ?_
  refine lv_aload_n hx hb dX1_save_47 rfl (lv_at hl 0 rfl) ?_
  refine lv_aload_n hx hb dX1_save_48 rfl (lv_at hl 2 rfl) ?_
  refine cV_v CF hK hN hA hS (cut_of 23 [17, 18, 19, 1, 2, 3, 0, 4, 5, 6, 7, 8, 9, 10, 11, 12, 13, 14, 15, 16, 20, 21, 22] hP hD rfl rfl rfl) (m_becomeLike l D cI cZ cW cJ A (oX1 hi 4 hv :: aW cW hv 6 svf :: oX7 (pa 0) (pb 0) (pc 0) (zc 0) (zr 0) (zl 0) (zw 0) (zf 0) :: aI cI (pb 0) 10 (zb 0) :: aI cI (pc 0) 3 (zs 0) :: oX7 (pa 1) (pb 1) (pc 1) (zc 1) (zr 1) (zl 1) (zw 1) (zf 1) :: aI cI (pb 1) 10 (zb 1) :: aI cI (pc 1) 3 (zs 1) :: oX7 (pa 2) (pb 2) (pc 2) (zc 2) (zr 2) (zl 2) (zw 2) (zf 2) :: aI cI (pb 2) 10 (zb 2) :: aI cI (pc 2) 3 (zs 2) :: oX7 (pa 3) (pb 3) (pc 3) (zc 3) (zr 3) (zl 3) (zw 3) (zf 3) :: aI cI (pb 3) 10 (zb 3) :: aI cI (pc 3) 3 (zs 3) :: oX7 (pa 5) (pb 5) (pc 5) (zc 5) (zr 5) (zl 5) (zw 5) (zf 5) :: aI cI (pb 5) 10 (zb 5) :: aI cI (pc 5) 3 (zs 5) :: X) (pa 4) (pb 4) (pc 4) (zc 4) (zr 4) (zl 4) (zw 4) (zf 4) (zb 4) (zs 4) w wb ws wc wr wl ww wf wbl wse) (cwV 1 hts gX1_save_X7_becomeLike rfl rfl rfl (by decide +kernel) ⟨Nat.le_of_ble_eq_true rfl, Nat.le_of_ble_eq_true rfl⟩) (As := [.ref w]) (rest := []) (ci := 7) (q0 := 0) rfl rfl rfl hl.1 rfl (Nat.le_of_ble_eq_true rfl) dX1_save_49 ⟨Nat.le_of_ble_eq_true rfl, Nat.le_of_ble_eq_true rfl⟩ (fun u_49 H locs hq hP hD hS => ?_)
  have hq_49 : (∀ j, j < 10 → u_49.1 j = wbl j) ∧ (∀ j, j < 3 → u_49.2 j = wse j) := hq
  have hP : va_P D vwCl (oX1 hi 4 hv :: oX7 w wb ws wc wr wl ww wf :: aI cI wb 10 wbl :: aI cI ws 3 wse :: aW cW hv 6 svf :: oX7 (pa 0) (pb 0) (pc 0) (zc 0) (zr 0) (zl 0) (zw 0) (zf 0) :: aI cI (pb 0) 10 (zb 0) :: aI cI (pc 0) 3 (zs 0) :: oX7 (pa 1) (pb 1) (pc 1) (zc 1) (zr 1) (zl 1) (zw 1) (zf 1) :: aI cI (pb 1) 10 (zb 1) :: aI cI (pc 1) 3 (zs 1) :: oX7 (pa 2) (pb 2) (pc 2) (zc 2) (zr 2) (zl 2) (zw 2) (zf 2) :: aI cI (pb 2) 10 (zb 2) :: aI cI (pc 2) 3 (zs 2) :: oX7 (pa 3) (pb 3) (pc 3) (zc 3) (zr 3) (zl 3) (zw 3) (zf 3) :: aI cI (pb 3) 10 (zb 3) :: aI cI (pc 3) 3 (zs 3) :: oX7 (pa 4) (pb 4) (pc 4) wc wr wl ww wf :: aI cI (pb 4) 10 u_49.1 :: aI cI (pc 4) 3 u_49.2 :: oX7 (pa 5) (pb 5) (pc 5) (zc 5) (zr 5) (zl 5) (zw 5) (zf 5) :: aI cI (pb 5) 10 (zb 5) :: aI cI (pc 5) 3 (zs 5) :: X) H := pm_P hP 23 [6, 3, 4, 5, 7, 8, 9, 10, 11, 12, 13, 14, 15, 16, 17, 18, 19, 0, 1, 2, 20, 21, 22] rfl
  have hD : va_D A (oX1 hi 4 hv :: oX7 w wb ws wc wr wl ww wf :: aI cI wb 10 wbl :: aI cI ws 3 wse :: aW cW hv 6 svf :: oX7 (pa 0) (pb 0) (pc 0) (zc 0) (zr 0) (zl 0) (zw 0) (zf 0) :: aI cI (pb 0) 10 (zb 0) :: aI cI (pc 0) 3 (zs 0) :: oX7 (pa 1) (pb 1) (pc 1) (zc 1) (zr 1) (zl 1) (zw 1) (zf 1) :: aI cI (pb 1) 10 (zb 1) :: aI cI (pc 1) 3 (zs 1) :: oX7 (pa 2) (pb 2) (pc 2) (zc 2) (zr 2) (zl 2) (zw 2) (zf 2) :: aI cI (pb 2) 10 (zb 2) :: aI cI (pc 2) 3 (zs 2) :: oX7 (pa 3) (pb 3) (pc 3) (zc 3) (zr 3) (zl 3) (zw 3) (zf 3) :: aI cI (pb 3) 10 (zb 3) :: aI cI (pc 3) 3 (zs 3) :: oX7 (pa 4) (pb 4) (pc 4) wc wr wl ww wf :: aI cI (pb 4) 10 u_49.1 :: aI cI (pc 4) 3 u_49.2 :: oX7 (pa 5) (pb 5) (pc 5) (zc 5) (zr 5) (zl 5) (zw 5) (zf 5) :: aI cI (pb 5) 10 (zb 5) :: aI cI (pc 5) 3 (zs 5) :: X) := pm_D hD 23 [6, 3, 4, 5, 7, 8, 9, 10, 11, 12, 13, 14, 15, 16, 17, 18, 19, 0, 1, 2, 20, 21, 22] rfl rfl rfl
  refine lv_aload_n hx hb dX1_save_52 rfl (lv_at hl 1 rfl) ?_
  refine lv_dup hx hb dX1_save_53 rfl ?_
  refine va_get (D := D) (ci := 1) (v := .int 4) (C := RX1) (T := TX1) (N := 2) hx hb hts hiX1 hown hK hP 0 rfl rfl 0 (by decide) (hts (.fieldLink RX1 18 "LedgeLeaps$History" "size" "I") (List.mem_of_getElem? (i := 1) rfl)) (fun _ h9 => h9) rfl dX1_save_54 ?_
  refine lv_iconst (v := 1) hx hb dX1_save_57 (by decide) ?_
  refine lv_iadd hx hb dX1_save_58 ?_
  refine top_i (y := 5) (by decide) ?_
  refine va_put (D := D) (ci := 1) (v := .int 5) (ty := .int) (C := RX1) (T := TX1) (N := 2) hx hb hts hiX1 tyX1 tyX1_ok nmX1 hown hK hP hD hS 0 rfl rfl 0 (by decide) (hts (.fieldLink RX1 18 "LedgeLeaps$History" "size" "I") (List.mem_of_getElem? (i := 1) rfl)) (fun _ h9 => h9) rfl (by decide +kernel) rfl rfl (Nat.le_of_ble_eq_true rfl) dX1_save_59 (fun H locs hP hD hS => ?_)
  have hP : va_P D vwCl (oX1 hi 5 hv :: oX7 w wb ws wc wr wl ww wf :: aI cI wb 10 wbl :: aI cI ws 3 wse :: aW cW hv 6 svf :: oX7 (pa 0) (pb 0) (pc 0) (zc 0) (zr 0) (zl 0) (zw 0) (zf 0) :: aI cI (pb 0) 10 (zb 0) :: aI cI (pc 0) 3 (zs 0) :: oX7 (pa 1) (pb 1) (pc 1) (zc 1) (zr 1) (zl 1) (zw 1) (zf 1) :: aI cI (pb 1) 10 (zb 1) :: aI cI (pc 1) 3 (zs 1) :: oX7 (pa 2) (pb 2) (pc 2) (zc 2) (zr 2) (zl 2) (zw 2) (zf 2) :: aI cI (pb 2) 10 (zb 2) :: aI cI (pc 2) 3 (zs 2) :: oX7 (pa 3) (pb 3) (pc 3) (zc 3) (zr 3) (zl 3) (zw 3) (zf 3) :: aI cI (pb 3) 10 (zb 3) :: aI cI (pc 3) 3 (zs 3) :: oX7 (pa 4) (pb 4) (pc 4) wc wr wl ww wf :: aI cI (pb 4) 10 u_49.1 :: aI cI (pc 4) 3 u_49.2 :: oX7 (pa 5) (pb 5) (pc 5) (zc 5) (zr 5) (zl 5) (zw 5) (zf 5) :: aI cI (pb 5) 10 (zb 5) :: aI cI (pc 5) 3 (zs 5) :: X) H := hP
  have hD : va_D A (oX1 hi 5 hv :: oX7 w wb ws wc wr wl ww wf :: aI cI wb 10 wbl :: aI cI ws 3 wse :: aW cW hv 6 svf :: oX7 (pa 0) (pb 0) (pc 0) (zc 0) (zr 0) (zl 0) (zw 0) (zf 0) :: aI cI (pb 0) 10 (zb 0) :: aI cI (pc 0) 3 (zs 0) :: oX7 (pa 1) (pb 1) (pc 1) (zc 1) (zr 1) (zl 1) (zw 1) (zf 1) :: aI cI (pb 1) 10 (zb 1) :: aI cI (pc 1) 3 (zs 1) :: oX7 (pa 2) (pb 2) (pc 2) (zc 2) (zr 2) (zl 2) (zw 2) (zf 2) :: aI cI (pb 2) 10 (zb 2) :: aI cI (pc 2) 3 (zs 2) :: oX7 (pa 3) (pb 3) (pc 3) (zc 3) (zr 3) (zl 3) (zw 3) (zf 3) :: aI cI (pb 3) 10 (zb 3) :: aI cI (pc 3) 3 (zs 3) :: oX7 (pa 4) (pb 4) (pc 4) wc wr wl ww wf :: aI cI (pb 4) 10 u_49.1 :: aI cI (pc 4) 3 u_49.2 :: oX7 (pa 5) (pb 5) (pc 5) (zc 5) (zr 5) (zl 5) (zw 5) (zf 5) :: aI cI (pb 5) 10 (zb 5) :: aI cI (pc 5) 3 (zs 5) :: X) := hD
  have hP := pm_P hP 23 [0, 1, 2, 3, 4, 5, 6, 7, 8, 9, 10, 11, 12, 13, 14, 15, 16, 17, 18, 19, 20, 21, 22] rfl
  have hD := pm_D hD 23 [0, 1, 2, 3, 4, 5, 6, 7, 8, 9, 10, 11, 12, 13, 14, 15, 16, 17, 18, 19, 20, 21, 22] rfl rfl rfl
  have hPD := blk_back (w := [oX1 hi 5 hv, oX7 w wb ws wc wr wl ww wf, aI cI wb 10 wbl, aI cI ws 3 wse]) (B := [aW cW hv 6 svf, oX7 (pa 0) (pb 0) (pc 0) (zc 0) (zr 0) (zl 0) (zw 0) (zf 0), aI cI (pb 0) 10 (zb 0), aI cI (pc 0) 3 (zs 0), oX7 (pa 1) (pb 1) (pc 1) (zc 1) (zr 1) (zl 1) (zw 1) (zf 1), aI cI (pb 1) 10 (zb 1), aI cI (pc 1) 3 (zs 1), oX7 (pa 2) (pb 2) (pc 2) (zc 2) (zr 2) (zl 2) (zw 2) (zf 2), aI cI (pb 2) 10 (zb 2), aI cI (pc 2) 3 (zs 2), oX7 (pa 3) (pb 3) (pc 3) (zc 3) (zr 3) (zl 3) (zw 3) (zf 3), aI cI (pb 3) 10 (zb 3), aI cI (pc 3) 3 (zs 3), oX7 (pa 4) (pb 4) (pc 4) wc wr wl ww wf, aI cI (pb 4) 10 u_49.1, aI cI (pc 4) 3 u_49.2, oX7 (pa 5) (pb 5) (pc 5) (zc 5) (zr 5) (zl 5) (zw 5) (zf 5), aI cI (pb 5) 10 (zb 5), aI cI (pc 5) 3 (zs 5)]) hP hD
  have hP := hPD.1
  have hD := hPD.2
  have hnew : HistR cI cW hv (pushH hist 4 S) (pushN 4) [aW cW hv 6 svf, oX7 (pa 0) (pb 0) (pc 0) (zc 0) (zr 0) (zl 0) (zw 0) (zf 0), aI cI (pb 0) 10 (zb 0), aI cI (pc 0) 3 (zs 0), oX7 (pa 1) (pb 1) (pc 1) (zc 1) (zr 1) (zl 1) (zw 1) (zf 1), aI cI (pb 1) 10 (zb 1), aI cI (pc 1) 3 (zs 1), oX7 (pa 2) (pb 2) (pc 2) (zc 2) (zr 2) (zl 2) (zw 2) (zf 2), aI cI (pb 2) 10 (zb 2), aI cI (pc 2) 3 (zs 2), oX7 (pa 3) (pb 3) (pc 3) (zc 3) (zr 3) (zl 3) (zw 3) (zf 3), aI cI (pb 3) 10 (zb 3), aI cI (pc 3) 3 (zs 3), oX7 (pa 4) (pb 4) (pc 4) wc wr wl ww wf, aI cI (pb 4) 10 u_49.1, aI cI (pc 4) 3 u_49.2, oX7 (pa 5) (pb 5) (pc 5) (zc 5) (zr 5) (zl 5) (zw 5) (zf 5), aI cI (pb 5) 10 (zb 5), aI cI (pc 5) 3 (zs 5)] := by
    refine ⟨svf, (va_up pa 4 (pa 4)), (va_up pb 4 (pb 4)), (va_up pc 4 (pc 4)), (va_up zb 4 u_49.1), (va_up zs 4 u_49.2), (va_up zc 4 wc), (va_up zr 4 wr), (va_up zl 4 wl), (va_up zw 4 ww), (va_up zf 4 wf), rfl, ?_, by decide, ?_⟩
    · exact fun i hi => by rcases (show i = 0 ∨ i = 1 ∨ i = 2 ∨ i = 3 ∨ i = 4 ∨ i = 5 by omega) with rfl | rfl | rfl | rfl | rfl | rfl <;> first | exact hsv _ (by decide) | exact hq_10.2 | exact hq_10.1 _ (by decide)
    · exact fun i hi => by
        have hi : i < 5 := hi
        show AbsX (if i = 4 then S else hist i) (va_up zb 4 u_49.1 i) (va_up zs 4 u_49.2 i) (va_up zc 4 wc i) (va_up zr 4 wr i) (va_up zl 4 wl i) (va_up zw 4 ww i) (va_up zf 4 wf i)
        by_cases q : i = 4
        · subst q; rw [if_pos rfl]; simp only [up_s]; exact hS0.cong hq_49.1 hq_49.2
        · rw [if_neg q]; simp only [up_n q]; exact hH i (by omega)
  exact W.vret hx hb hr (fun t9 ht9 hW9 => ⟨⟨_, rfl, hnew, by rw [ht9]; exact hP, hD⟩, hS.F ht9⟩) hS.2.2 dX1_save_62
set_option maxHeartbeats 4000000 in
set_option maxRecDepth 100000 in
theorem m_save_5 (l : Launch) (D : va_G) (cI cZ cW cJ : ClassId) (A : Nat → Prop) (X : va_W) (hi hv : Nat) (w wb ws : Nat) (wc wr wl ww wf : Int32) (wbl wse : Nat → Int32) (HR : va_W) (hist : Nat → KS) (S : KS) (hR : HistR cI cW hv hist 5 HR) (hS0 : AbsX S wbl wse wc wr wl ww wf) : Met l yX1_save wsX1_save ({ frames := 2, cells := 0, slots := 0, locals := 61 }) (va_Pc [.ref hi, .ref w] (wd D (tyL cI cZ cW cJ) A (oX1 hi (nI 5) hv :: oX7 w wb ws wc wr wl ww wf :: aI cI wb 10 wbl :: aI cI ws 3 wse :: (X ++ HR)))) (va_Qv (fun (u : va_W) => HistR cI cW hv (pushH hist 5 S) (pushN 5) u) (fun (u : va_W) t => wq D A (oX1 hi (nI (pushN 5)) hv :: oX7 w wb ws wc wr wl ww wf :: aI cI wb 10 wbl :: aI cI ws 3 wse :: (X ++ u)) t) A) 0 0 A := by
  refine Met.ofW (cc := cX1_save) (maxL := 3) (ret := none) (by decide) rfl ?_
  intro p e s m args below meth c s₁ B hml hv
  obtain ⟨rfl, hsz9, hP, hK, hD, hN⟩ := hv
  have hx := B.exec
  have hb := B.bytes
  have hr := B.returns
  have hts := atoms_spec (ws := wsX1_save) B.pre
  have hown : s.vm.findClass RX1 = some m.cls := findClass_of_methodNamed B.named
  have hlocks := B.notSynchronized
  have CF : CallFix p m c cX1_save 3 s _ wsX1_save RX1 := ⟨hx, hb, hml, hown, hts⟩
  have hA : ∀ q : Nat, s.heap.size ≤ q → A q := hsz9
  have hS : va_S A s.heap s.heap [] := va_S.rf
  have hiX1 : ∀ w ∈ u_ws RX1 TX1 2, w ∈ wsX1_save := fun _ h => List.mem_cons_of_mem _ (List.mem_append_left _ (List.mem_append_right _ (h)))
  have hl := lv_entry ([.ref hi, .ref w]) (n := 3) (Nat.le_of_ble_eq_true rfl)
  rw [lg_entry_eq]
  generalize (lg_sl ([.ref hi, .ref w]) ++ List.replicate (3 - (lg_sl ([.ref hi, .ref w])).length) Slot.unset).toArray = ls at hl ⊢
  have hl : lv_has ls 3 [(0, .ref hi), (1, .ref w)] := hl
  show W p l e ({ frames := 2, cells := 0, slots := 0, locals := 61 } : Room) s m (([.ref hi, .ref w] : List Value).toArray) below meth c s.heap [] 0 0 (MQ below (va_Qv (fun (u : va_W) => HistR cI cW hv (pushH hist 5 S) (pushN 5) u) (fun (u : va_W) t => wq D A (oX1 hi (nI (pushN 5)) hv :: oX7 w wb ws wc wr wl ww wf :: aI cI wb 10 wbl :: aI cI ws 3 wse :: (X ++ u)) t) A) (([.ref hi, .ref w] : List Value).toArray) s 0 0 A) (F0 m 0 ls [])
  obtain ⟨svf, pa, pb, pc, zb, zs, zc, zr, zl, zw, zf, rfl, hsv, hn6, hH⟩ := hR
  have hPD := blk_front (w := [oX1 hi 5 hv, oX7 w wb ws wc wr wl ww wf, aI cI wb 10 wbl, aI cI ws 3 wse]) hP hD
  have hP : va_P D vwCl (oX1 hi 5 hv :: oX7 w wb ws wc wr wl ww wf :: aI cI wb 10 wbl :: aI cI ws 3 wse :: aW cW hv 6 svf :: oX7 (pa 0) (pb 0) (pc 0) (zc 0) (zr 0) (zl 0) (zw 0) (zf 0) :: aI cI (pb 0) 10 (zb 0) :: aI cI (pc 0) 3 (zs 0) :: oX7 (pa 1) (pb 1) (pc 1) (zc 1) (zr 1) (zl 1) (zw 1) (zf 1) :: aI cI (pb 1) 10 (zb 1) :: aI cI (pc 1) 3 (zs 1) :: oX7 (pa 2) (pb 2) (pc 2) (zc 2) (zr 2) (zl 2) (zw 2) (zf 2) :: aI cI (pb 2) 10 (zb 2) :: aI cI (pc 2) 3 (zs 2) :: oX7 (pa 3) (pb 3) (pc 3) (zc 3) (zr 3) (zl 3) (zw 3) (zf 3) :: aI cI (pb 3) 10 (zb 3) :: aI cI (pc 3) 3 (zs 3) :: oX7 (pa 4) (pb 4) (pc 4) (zc 4) (zr 4) (zl 4) (zw 4) (zf 4) :: aI cI (pb 4) 10 (zb 4) :: aI cI (pc 4) 3 (zs 4) :: oX7 (pa 5) (pb 5) (pc 5) (zc 5) (zr 5) (zl 5) (zw 5) (zf 5) :: aI cI (pb 5) 10 (zb 5) :: aI cI (pc 5) 3 (zs 5) :: X) s.heap := hPD.1
  have hD : va_D A (oX1 hi 5 hv :: oX7 w wb ws wc wr wl ww wf :: aI cI wb 10 wbl :: aI cI ws 3 wse :: aW cW hv 6 svf :: oX7 (pa 0) (pb 0) (pc 0) (zc 0) (zr 0) (zl 0) (zw 0) (zf 0) :: aI cI (pb 0) 10 (zb 0) :: aI cI (pc 0) 3 (zs 0) :: oX7 (pa 1) (pb 1) (pc 1) (zc 1) (zr 1) (zl 1) (zw 1) (zf 1) :: aI cI (pb 1) 10 (zb 1) :: aI cI (pc 1) 3 (zs 1) :: oX7 (pa 2) (pb 2) (pc 2) (zc 2) (zr 2) (zl 2) (zw 2) (zf 2) :: aI cI (pb 2) 10 (zb 2) :: aI cI (pc 2) 3 (zs 2) :: oX7 (pa 3) (pb 3) (pc 3) (zc 3) (zr 3) (zl 3) (zw 3) (zf 3) :: aI cI (pb 3) 10 (zb 3) :: aI cI (pc 3) 3 (zs 3) :: oX7 (pa 4) (pb 4) (pc 4) (zc 4) (zr 4) (zl 4) (zw 4) (zf 4) :: aI cI (pb 4) 10 (zb 4) :: aI cI (pc 4) 3 (zs 4) :: oX7 (pa 5) (pb 5) (pc 5) (zc 5) (zr 5) (zl 5) (zw 5) (zf 5) :: aI cI (pb 5) 10 (zb 5) :: aI cI (pc 5) 3 (zs 5) :: X) := hPD.2
  refine lv_aload_n hx hb dX1_save_0 rfl (lv_at hl 0 rfl) ?_
  refine va_get (D := D) (ci := 1) (v := .int 5) (C := RX1) (T := TX1) (N := 2) hx hb hts hiX1 hown hK hP 0 rfl rfl 0 (by decide) (hts (.fieldLink RX1 18 "LedgeLeaps$History" "size" "I") (List.mem_of_getElem? (i := 1) rfl)) (fun _ h9 => h9) rfl dX1_save_1 ?_
  refine lv_bipush (v := 6) hx hb dX1_save_4 (by decide) ?_
  have c_6 : (5 : Int32) < 6 := by decide
  refine lv_icmp_lt (tgt := 13) hx hb dX1_save_6 (by decide) (fun _ => ?_) (fun q => absurd c_6 q)
  refine lv_aload_n hx hb dX1_save_13 rfl (lv_at hl 0 rfl) ?_
  refine va_get (D := D) (ci := 1) (v := .int 5) (C := RX1) (T := TX1) (N := 2) hx hb hts hiX1 hown hK hP 0 rfl rfl 0 (by decide) (hts (.fieldLink RX1 18 "LedgeLeaps$History" "size" "I") (List.mem_of_getElem? (i := 1) rfl)) (fun _ h9 => h9) rfl dX1_save_14 ?_
  have c_17 : ¬ (5 : Int32) < 0 := by decide
  refine lv_if_lt (tgt := 41) hx hb dX1_save_17 (by decide) (fun q => absurd q c_17) (fun _ => ?_)
  refine lv_aload_n hx hb dX1_save_20 rfl (lv_at hl 0 rfl) ?_
  refine va_get (D := D) (ci := 1) (v := .int 5) (C := RX1) (T := TX1) (N := 2) hx hb hts hiX1 hown hK hP 0 rfl rfl 0 (by decide) (hts (.fieldLink RX1 18 "LedgeLeaps$History" "size" "I") (List.mem_of_getElem? (i := 1) rfl)) (fun _ h9 => h9) rfl dX1_save_21 ?_
  refine lv_bipush (v := 6) hx hb dX1_save_24 (by decide) ?_
  have c_26 : ¬ (6 : Int32) ≤ 5 := by decide
  refine lv_icmp_ge (tgt := 41) hx hb dX1_save_26 (by decide) (fun q => absurd q c_26) (fun _ => ?_)
  refine lv_aload_n hx hb dX1_save_29 rfl (lv_at hl 0 rfl) ?_
  refine va_get (D := D) (ci := 1) (v := .ref hv) (C := RX1) (T := TX1) (N := 2) hx hb hts hiX1 hown hK hP 0 rfl rfl 1 (by decide) (hts (.fieldLink RX1 11 "LedgeLeaps$History" "saved" "[LLedgeLeaps$World;") (List.mem_of_getElem? (i := 2) rfl)) (fun _ h9 => h9) rfl dX1_save_30 ?_
  refine lv_aload_n hx hb dX1_save_33 rfl (lv_at hl 0 rfl) ?_
  refine va_get (D := D) (ci := 1) (v := .int 5) (C := RX1) (T := TX1) (N := 2) hx hb hts hiX1 hown hK hP 0 rfl rfl 0 (by decide) (hts (.fieldLink RX1 18 "LedgeLeaps$History" "size" "I") (List.mem_of_getElem? (i := 1) rfl)) (fun _ h9 => h9) rfl dX1_save_34 ?_
  refine va_aldr (v := (pa 5)) hx hb hK hP 4 2 rfl rfl (show ¬ ((5 : Int32) < 0 ∨ 6 ≤ (5 : Int32).toNatClampNeg) by decide) (hsv 5 (by decide)) dX1_save_37 ?_
  refine lv_goto (tgt := 42) hx hb dX1_save_38 (by decide) ?_
  refine lv_astore_n (lv' := [(2, .ref (pa 5)), (0, .ref hi), (1, .ref w)]) hx hb dX1_save_42 rfl hl (by decide) rfl (fun ls hl => ?_)
  refine lv_aload_n hx hb dX1_save_43 rfl (lv_at hl 0 rfl) ?_
  refine lv_ifnull hx hb dX1_save_44 ?_
  refine lv_aload_n hx hb dX1_save_47 rfl (lv_at hl 0 rfl) ?_
  refine lv_aload_n hx hb dX1_save_48 rfl (lv_at hl 2 rfl) ?_
  refine cV_v CF hK hN hA hS (cut_of 23 [20, 21, 22, 1, 2, 3, 0, 4, 5, 6, 7, 8, 9, 10, 11, 12, 13, 14, 15, 16, 17, 18, 19] hP hD rfl rfl rfl) (m_becomeLike l D cI cZ cW cJ A (oX1 hi 5 hv :: aW cW hv 6 svf :: oX7 (pa 0) (pb 0) (pc 0) (zc 0) (zr 0) (zl 0) (zw 0) (zf 0) :: aI cI (pb 0) 10 (zb 0) :: aI cI (pc 0) 3 (zs 0) :: oX7 (pa 1) (pb 1) (pc 1) (zc 1) (zr 1) (zl 1) (zw 1) (zf 1) :: aI cI (pb 1) 10 (zb 1) :: aI cI (pc 1) 3 (zs 1) :: oX7 (pa 2) (pb 2) (pc 2) (zc 2) (zr 2) (zl 2) (zw 2) (zf 2) :: aI cI (pb 2) 10 (zb 2) :: aI cI (pc 2) 3 (zs 2) :: oX7 (pa 3) (pb 3) (pc 3) (zc 3) (zr 3) (zl 3) (zw 3) (zf 3) :: aI cI (pb 3) 10 (zb 3) :: aI cI (pc 3) 3 (zs 3) :: oX7 (pa 4) (pb 4) (pc 4) (zc 4) (zr 4) (zl 4) (zw 4) (zf 4) :: aI cI (pb 4) 10 (zb 4) :: aI cI (pc 4) 3 (zs 4) :: X) (pa 5) (pb 5) (pc 5) (zc 5) (zr 5) (zl 5) (zw 5) (zf 5) (zb 5) (zs 5) w wb ws wc wr wl ww wf wbl wse) (cwV 1 hts gX1_save_X7_becomeLike rfl rfl rfl (by decide +kernel) ⟨Nat.le_of_ble_eq_true rfl, Nat.le_of_ble_eq_true rfl⟩) (As := [.ref w]) (rest := []) (ci := 7) (q0 := 0) rfl rfl rfl hl.1 rfl (Nat.le_of_ble_eq_true rfl) dX1_save_49 ⟨Nat.le_of_ble_eq_true rfl, Nat.le_of_ble_eq_true rfl⟩ (fun u_49 H locs hq hP hD hS => ?_)
  have hq_49 : (∀ j, j < 10 → u_49.1 j = wbl j) ∧ (∀ j, j < 3 → u_49.2 j = wse j) := hq
  have hP : va_P D vwCl (oX1 hi 5 hv :: oX7 w wb ws wc wr wl ww wf :: aI cI wb 10 wbl :: aI cI ws 3 wse :: aW cW hv 6 svf :: oX7 (pa 0) (pb 0) (pc 0) (zc 0) (zr 0) (zl 0) (zw 0) (zf 0) :: aI cI (pb 0) 10 (zb 0) :: aI cI (pc 0) 3 (zs 0) :: oX7 (pa 1) (pb 1) (pc 1) (zc 1) (zr 1) (zl 1) (zw 1) (zf 1) :: aI cI (pb 1) 10 (zb 1) :: aI cI (pc 1) 3 (zs 1) :: oX7 (pa 2) (pb 2) (pc 2) (zc 2) (zr 2) (zl 2) (zw 2) (zf 2) :: aI cI (pb 2) 10 (zb 2) :: aI cI (pc 2) 3 (zs 2) :: oX7 (pa 3) (pb 3) (pc 3) (zc 3) (zr 3) (zl 3) (zw 3) (zf 3) :: aI cI (pb 3) 10 (zb 3) :: aI cI (pc 3) 3 (zs 3) :: oX7 (pa 4) (pb 4) (pc 4) (zc 4) (zr 4) (zl 4) (zw 4) (zf 4) :: aI cI (pb 4) 10 (zb 4) :: aI cI (pc 4) 3 (zs 4) :: oX7 (pa 5) (pb 5) (pc 5) wc wr wl ww wf :: aI cI (pb 5) 10 u_49.1 :: aI cI (pc 5) 3 u_49.2 :: X) H := pm_P hP 23 [6, 3, 4, 5, 7, 8, 9, 10, 11, 12, 13, 14, 15, 16, 17, 18, 19, 20, 21, 22, 0, 1, 2] rfl
  have hD : va_D A (oX1 hi 5 hv :: oX7 w wb ws wc wr wl ww wf :: aI cI wb 10 wbl :: aI cI ws 3 wse :: aW cW hv 6 svf :: oX7 (pa 0) (pb 0) (pc 0) (zc 0) (zr 0) (zl 0) (zw 0) (zf 0) :: aI cI (pb 0) 10 (zb 0) :: aI cI (pc 0) 3 (zs 0) :: oX7 (pa 1) (pb 1) (pc 1) (zc 1) (zr 1) (zl 1) (zw 1) (zf 1) :: aI cI (pb 1) 10 (zb 1) :: aI cI (pc 1) 3 (zs 1) :: oX7 (pa 2) (pb 2) (pc 2) (zc 2) (zr 2) (zl 2) (zw 2) (zf 2) :: aI cI (pb 2) 10 (zb 2) :: aI cI (pc 2) 3 (zs 2) :: oX7 (pa 3) (pb 3) (pc 3) (zc 3) (zr 3) (zl 3) (zw 3) (zf 3) :: aI cI (pb 3) 10 (zb 3) :: aI cI (pc 3) 3 (zs 3) :: oX7 (pa 4) (pb 4) (pc 4) (zc 4) (zr 4) (zl 4) (zw 4) (zf 4) :: aI cI (pb 4) 10 (zb 4) :: aI cI (pc 4) 3 (zs 4) :: oX7 (pa 5) (pb 5) (pc 5) wc wr wl ww wf :: aI cI (pb 5) 10 u_49.1 :: aI cI (pc 5) 3 u_49.2 :: X) := pm_D hD 23 [6, 3, 4, 5, 7, 8, 9, 10, 11, 12, 13, 14, 15, 16, 17, 18, 19, 20, 21, 22, 0, 1, 2] rfl rfl rfl
  refine lv_aload_n hx hb dX1_save_52 rfl (lv_at hl 1 rfl) ?_
  refine lv_dup hx hb dX1_save_53 rfl ?_
  refine va_get (D := D) (ci := 1) (v := .int 5) (C := RX1) (T := TX1) (N := 2) hx hb hts hiX1 hown hK hP 0 rfl rfl 0 (by decide) (hts (.fieldLink RX1 18 "LedgeLeaps$History" "size" "I") (List.mem_of_getElem? (i := 1) rfl)) (fun _ h9 => h9) rfl dX1_save_54 ?_
  refine lv_iconst (v := 1) hx hb dX1_save_57 (by decide) ?_
  refine lv_iadd hx hb dX1_save_58 ?_
  refine top_i (y := 6) (by decide) ?_
  refine va_put (D := D) (ci := 1) (v := .int 6) (ty := .int) (C := RX1) (T := TX1) (N := 2) hx hb hts hiX1 tyX1 tyX1_ok nmX1 hown hK hP hD hS 0 rfl rfl 0 (by decide) (hts (.fieldLink RX1 18 "LedgeLeaps$History" "size" "I") (List.mem_of_getElem? (i := 1) rfl)) (fun _ h9 => h9) rfl (by decide +kernel) rfl rfl (Nat.le_of_ble_eq_true rfl) dX1_save_59 (fun H locs hP hD hS => ?_)
  have hP : va_P D vwCl (oX1 hi 6 hv :: oX7 w wb ws wc wr wl ww wf :: aI cI wb 10 wbl :: aI cI ws 3 wse :: aW cW hv 6 svf :: oX7 (pa 0) (pb 0) (pc 0) (zc 0) (zr 0) (zl 0) (zw 0) (zf 0) :: aI cI (pb 0) 10 (zb 0) :: aI cI (pc 0) 3 (zs 0) :: oX7 (pa 1) (pb 1) (pc 1) (zc 1) (zr 1) (zl 1) (zw 1) (zf 1) :: aI cI (pb 1) 10 (zb 1) :: aI cI (pc 1) 3 (zs 1) :: oX7 (pa 2) (pb 2) (pc 2) (zc 2) (zr 2) (zl 2) (zw 2) (zf 2) :: aI cI (pb 2) 10 (zb 2) :: aI cI (pc 2) 3 (zs 2) :: oX7 (pa 3) (pb 3) (pc 3) (zc 3) (zr 3) (zl 3) (zw 3) (zf 3) :: aI cI (pb 3) 10 (zb 3) :: aI cI (pc 3) 3 (zs 3) :: oX7 (pa 4) (pb 4) (pc 4) (zc 4) (zr 4) (zl 4) (zw 4) (zf 4) :: aI cI (pb 4) 10 (zb 4) :: aI cI (pc 4) 3 (zs 4) :: oX7 (pa 5) (pb 5) (pc 5) wc wr wl ww wf :: aI cI (pb 5) 10 u_49.1 :: aI cI (pc 5) 3 u_49.2 :: X) H := hP
  have hD : va_D A (oX1 hi 6 hv :: oX7 w wb ws wc wr wl ww wf :: aI cI wb 10 wbl :: aI cI ws 3 wse :: aW cW hv 6 svf :: oX7 (pa 0) (pb 0) (pc 0) (zc 0) (zr 0) (zl 0) (zw 0) (zf 0) :: aI cI (pb 0) 10 (zb 0) :: aI cI (pc 0) 3 (zs 0) :: oX7 (pa 1) (pb 1) (pc 1) (zc 1) (zr 1) (zl 1) (zw 1) (zf 1) :: aI cI (pb 1) 10 (zb 1) :: aI cI (pc 1) 3 (zs 1) :: oX7 (pa 2) (pb 2) (pc 2) (zc 2) (zr 2) (zl 2) (zw 2) (zf 2) :: aI cI (pb 2) 10 (zb 2) :: aI cI (pc 2) 3 (zs 2) :: oX7 (pa 3) (pb 3) (pc 3) (zc 3) (zr 3) (zl 3) (zw 3) (zf 3) :: aI cI (pb 3) 10 (zb 3) :: aI cI (pc 3) 3 (zs 3) :: oX7 (pa 4) (pb 4) (pc 4) (zc 4) (zr 4) (zl 4) (zw 4) (zf 4) :: aI cI (pb 4) 10 (zb 4) :: aI cI (pc 4) 3 (zs 4) :: oX7 (pa 5) (pb 5) (pc 5) wc wr wl ww wf :: aI cI (pb 5) 10 u_49.1 :: aI cI (pc 5) 3 u_49.2 :: X) := hD
  have hP := pm_P hP 23 [0, 1, 2, 3, 4, 5, 6, 7, 8, 9, 10, 11, 12, 13, 14, 15, 16, 17, 18, 19, 20, 21, 22] rfl
  have hD := pm_D hD 23 [0, 1, 2, 3, 4, 5, 6, 7, 8, 9, 10, 11, 12, 13, 14, 15, 16, 17, 18, 19, 20, 21, 22] rfl rfl rfl
  have hPD := blk_back (w := [oX1 hi 6 hv, oX7 w wb ws wc wr wl ww wf, aI cI wb 10 wbl, aI cI ws 3 wse]) (B := [aW cW hv 6 svf, oX7 (pa 0) (pb 0) (pc 0) (zc 0) (zr 0) (zl 0) (zw 0) (zf 0), aI cI (pb 0) 10 (zb 0), aI cI (pc 0) 3 (zs 0), oX7 (pa 1) (pb 1) (pc 1) (zc 1) (zr 1) (zl 1) (zw 1) (zf 1), aI cI (pb 1) 10 (zb 1), aI cI (pc 1) 3 (zs 1), oX7 (pa 2) (pb 2) (pc 2) (zc 2) (zr 2) (zl 2) (zw 2) (zf 2), aI cI (pb 2) 10 (zb 2), aI cI (pc 2) 3 (zs 2), oX7 (pa 3) (pb 3) (pc 3) (zc 3) (zr 3) (zl 3) (zw 3) (zf 3), aI cI (pb 3) 10 (zb 3), aI cI (pc 3) 3 (zs 3), oX7 (pa 4) (pb 4) (pc 4) (zc 4) (zr 4) (zl 4) (zw 4) (zf 4), aI cI (pb 4) 10 (zb 4), aI cI (pc 4) 3 (zs 4), oX7 (pa 5) (pb 5) (pc 5) wc wr wl ww wf, aI cI (pb 5) 10 u_49.1, aI cI (pc 5) 3 u_49.2]) hP hD
  have hP := hPD.1
  have hD := hPD.2
  have hnew : HistR cI cW hv (pushH hist 5 S) (pushN 5) [aW cW hv 6 svf, oX7 (pa 0) (pb 0) (pc 0) (zc 0) (zr 0) (zl 0) (zw 0) (zf 0), aI cI (pb 0) 10 (zb 0), aI cI (pc 0) 3 (zs 0), oX7 (pa 1) (pb 1) (pc 1) (zc 1) (zr 1) (zl 1) (zw 1) (zf 1), aI cI (pb 1) 10 (zb 1), aI cI (pc 1) 3 (zs 1), oX7 (pa 2) (pb 2) (pc 2) (zc 2) (zr 2) (zl 2) (zw 2) (zf 2), aI cI (pb 2) 10 (zb 2), aI cI (pc 2) 3 (zs 2), oX7 (pa 3) (pb 3) (pc 3) (zc 3) (zr 3) (zl 3) (zw 3) (zf 3), aI cI (pb 3) 10 (zb 3), aI cI (pc 3) 3 (zs 3), oX7 (pa 4) (pb 4) (pc 4) (zc 4) (zr 4) (zl 4) (zw 4) (zf 4), aI cI (pb 4) 10 (zb 4), aI cI (pc 4) 3 (zs 4), oX7 (pa 5) (pb 5) (pc 5) wc wr wl ww wf, aI cI (pb 5) 10 u_49.1, aI cI (pc 5) 3 u_49.2] := by
    refine ⟨svf, (va_up pa 5 (pa 5)), (va_up pb 5 (pb 5)), (va_up pc 5 (pc 5)), (va_up zb 5 u_49.1), (va_up zs 5 u_49.2), (va_up zc 5 wc), (va_up zr 5 wr), (va_up zl 5 wl), (va_up zw 5 ww), (va_up zf 5 wf), rfl, ?_, by decide, ?_⟩
    · exact fun i hi => by rcases (show i = 0 ∨ i = 1 ∨ i = 2 ∨ i = 3 ∨ i = 4 ∨ i = 5 by omega) with rfl | rfl | rfl | rfl | rfl | rfl <;> first | exact hsv _ (by decide) | exact hq_10.2 | exact hq_10.1 _ (by decide)
    · exact fun i hi => by
        have hi : i < 6 := hi
        show AbsX (if i = 5 then S else hist i) (va_up zb 5 u_49.1 i) (va_up zs 5 u_49.2 i) (va_up zc 5 wc i) (va_up zr 5 wr i) (va_up zl 5 wl i) (va_up zw 5 ww i) (va_up zf 5 wf i)
        by_cases q : i = 5
        · subst q; rw [if_pos rfl]; simp only [up_s]; exact hS0.cong hq_49.1 hq_49.2
        · rw [if_neg q]; simp only [up_n q]; exact hH i (by omega)
  exact W.vret hx hb hr (fun t9 ht9 hW9 => ⟨⟨_, rfl, hnew, by rw [ht9]; exact hP, hD⟩, hS.F ht9⟩) hS.2.2 dX1_save_62
set_option maxHeartbeats 4000000 in
set_option maxRecDepth 100000 in
theorem m_save_6 (l : Launch) (D : va_G) (cI cZ cW cJ : ClassId) (A : Nat → Prop) (X : va_W) (hi hv : Nat) (w wb ws : Nat) (wc wr wl ww wf : Int32) (wbl wse : Nat → Int32) (HR : va_W) (hist : Nat → KS) (S : KS) (hR : HistR cI cW hv hist 6 HR) (hS0 : AbsX S wbl wse wc wr wl ww wf) : Met l yX1_save wsX1_save ({ frames := 2, cells := 0, slots := 0, locals := 61 }) (va_Pc [.ref hi, .ref w] (wd D (tyL cI cZ cW cJ) A (oX1 hi (nI 6) hv :: oX7 w wb ws wc wr wl ww wf :: aI cI wb 10 wbl :: aI cI ws 3 wse :: (X ++ HR)))) (va_Qv (fun (u : va_W) => HistR cI cW hv (pushH hist 6 S) (pushN 6) u) (fun (u : va_W) t => wq D A (oX1 hi (nI (pushN 6)) hv :: oX7 w wb ws wc wr wl ww wf :: aI cI wb 10 wbl :: aI cI ws 3 wse :: (X ++ u)) t) A) 0 0 A := by
  refine Met.ofW (cc := cX1_save) (maxL := 3) (ret := none) (by decide) rfl ?_
  intro p e s m args below meth c s₁ B hml hv
  obtain ⟨rfl, hsz9, hP, hK, hD, hN⟩ := hv
  have hx := B.exec
  have hb := B.bytes
  have hr := B.returns
  have hts := atoms_spec (ws := wsX1_save) B.pre
  have hown : s.vm.findClass RX1 = some m.cls := findClass_of_methodNamed B.named
  have hlocks := B.notSynchronized
  have CF : CallFix p m c cX1_save 3 s _ wsX1_save RX1 := ⟨hx, hb, hml, hown, hts⟩
  have hA : ∀ q : Nat, s.heap.size ≤ q → A q := hsz9
  have hS : va_S A s.heap s.heap [] := va_S.rf
  have hiX1 : ∀ w ∈ u_ws RX1 TX1 2, w ∈ wsX1_save := fun _ h => List.mem_cons_of_mem _ (List.mem_append_left _ (List.mem_append_right _ (h)))
  have hl := lv_entry ([.ref hi, .ref w]) (n := 3) (Nat.le_of_ble_eq_true rfl)
  rw [lg_entry_eq]
  generalize (lg_sl ([.ref hi, .ref w]) ++ List.replicate (3 - (lg_sl ([.ref hi, .ref w])).length) Slot.unset).toArray = ls at hl ⊢
  have hl : lv_has ls 3 [(0, .ref hi), (1, .ref w)] := hl
  show W p l e ({ frames := 2, cells := 0, slots := 0, locals := 61 } : Room) s m (([.ref hi, .ref w] : List Value).toArray) below meth c s.heap [] 0 0 (MQ below (va_Qv (fun (u : va_W) => HistR cI cW hv (pushH hist 6 S) (pushN 6) u) (fun (u : va_W) t => wq D A (oX1 hi (nI (pushN 6)) hv :: oX7 w wb ws wc wr wl ww wf :: aI cI wb 10 wbl :: aI cI ws 3 wse :: (X ++ u)) t) A) (([.ref hi, .ref w] : List Value).toArray) s 0 0 A) (F0 m 0 ls [])
  obtain ⟨svf, pa, pb, pc, zb, zs, zc, zr, zl, zw, zf, rfl, hsv, hn6, hH⟩ := hR
  have hPD := blk_front (w := [oX1 hi 6 hv, oX7 w wb ws wc wr wl ww wf, aI cI wb 10 wbl, aI cI ws 3 wse]) hP hD
  have hP : va_P D vwCl (oX1 hi 6 hv :: oX7 w wb ws wc wr wl ww wf :: aI cI wb 10 wbl :: aI cI ws 3 wse :: aW cW hv 6 svf :: oX7 (pa 0) (pb 0) (pc 0) (zc 0) (zr 0) (zl 0) (zw 0) (zf 0) :: aI cI (pb 0) 10 (zb 0) :: aI cI (pc 0) 3 (zs 0) :: oX7 (pa 1) (pb 1) (pc 1) (zc 1) (zr 1) (zl 1) (zw 1) (zf 1) :: aI cI (pb 1) 10 (zb 1) :: aI cI (pc 1) 3 (zs 1) :: oX7 (pa 2) (pb 2) (pc 2) (zc 2) (zr 2) (zl 2) (zw 2) (zf 2) :: aI cI (pb 2) 10 (zb 2) :: aI cI (pc 2) 3 (zs 2) :: oX7 (pa 3) (pb 3) (pc 3) (zc 3) (zr 3) (zl 3) (zw 3) (zf 3) :: aI cI (pb 3) 10 (zb 3) :: aI cI (pc 3) 3 (zs 3) :: oX7 (pa 4) (pb 4) (pc 4) (zc 4) (zr 4) (zl 4) (zw 4) (zf 4) :: aI cI (pb 4) 10 (zb 4) :: aI cI (pc 4) 3 (zs 4) :: oX7 (pa 5) (pb 5) (pc 5) (zc 5) (zr 5) (zl 5) (zw 5) (zf 5) :: aI cI (pb 5) 10 (zb 5) :: aI cI (pc 5) 3 (zs 5) :: X) s.heap := hPD.1
  have hD : va_D A (oX1 hi 6 hv :: oX7 w wb ws wc wr wl ww wf :: aI cI wb 10 wbl :: aI cI ws 3 wse :: aW cW hv 6 svf :: oX7 (pa 0) (pb 0) (pc 0) (zc 0) (zr 0) (zl 0) (zw 0) (zf 0) :: aI cI (pb 0) 10 (zb 0) :: aI cI (pc 0) 3 (zs 0) :: oX7 (pa 1) (pb 1) (pc 1) (zc 1) (zr 1) (zl 1) (zw 1) (zf 1) :: aI cI (pb 1) 10 (zb 1) :: aI cI (pc 1) 3 (zs 1) :: oX7 (pa 2) (pb 2) (pc 2) (zc 2) (zr 2) (zl 2) (zw 2) (zf 2) :: aI cI (pb 2) 10 (zb 2) :: aI cI (pc 2) 3 (zs 2) :: oX7 (pa 3) (pb 3) (pc 3) (zc 3) (zr 3) (zl 3) (zw 3) (zf 3) :: aI cI (pb 3) 10 (zb 3) :: aI cI (pc 3) 3 (zs 3) :: oX7 (pa 4) (pb 4) (pc 4) (zc 4) (zr 4) (zl 4) (zw 4) (zf 4) :: aI cI (pb 4) 10 (zb 4) :: aI cI (pc 4) 3 (zs 4) :: oX7 (pa 5) (pb 5) (pc 5) (zc 5) (zr 5) (zl 5) (zw 5) (zf 5) :: aI cI (pb 5) 10 (zb 5) :: aI cI (pc 5) 3 (zs 5) :: X) := hPD.2
  refine lv_aload_n hx hb dX1_save_0 rfl (lv_at hl 0 rfl) ?_
  refine va_get (D := D) (ci := 1) (v := .int 6) (C := RX1) (T := TX1) (N := 2) hx hb hts hiX1 hown hK hP 0 rfl rfl 0 (by decide) (hts (.fieldLink RX1 18 "LedgeLeaps$History" "size" "I") (List.mem_of_getElem? (i := 1) rfl)) (fun _ h9 => h9) rfl dX1_save_1 ?_
  refine lv_bipush (v := 6) hx hb dX1_save_4 (by decide) ?_
  have c_6 : ¬ (6 : Int32) < 6 := by decide
  refine lv_icmp_lt (tgt := 13) hx hb dX1_save_6 (by decide) (fun q => absurd q c_6) (fun _ => ?_)
  refine lv_aload_n hx hb dX1_save_9 rfl (lv_at hl 0 rfl) ?_
  refine cV_v CF hK hN hA hS (cut_of 23 [0, 4, 5, 8, 11, 14, 17, 20, 1, 2, 3, 6, 7, 9, 10, 12, 13, 15, 16, 18, 19, 21, 22] hP hD rfl rfl rfl) (m_dropOldest l D cI cZ cW cJ A (oX7 w wb ws wc wr wl ww wf :: aI cI wb 10 wbl :: aI cI ws 3 wse :: aI cI (pb 0) 10 (zb 0) :: aI cI (pc 0) 3 (zs 0) :: aI cI (pb 1) 10 (zb 1) :: aI cI (pc 1) 3 (zs 1) :: aI cI (pb 2) 10 (zb 2) :: aI cI (pc 2) 3 (zs 2) :: aI cI (pb 3) 10 (zb 3) :: aI cI (pc 3) 3 (zs 3) :: aI cI (pb 4) 10 (zb 4) :: aI cI (pc 4) 3 (zs 4) :: aI cI (pb 5) 10 (zb 5) :: aI cI (pc 5) 3 (zs 5) :: X) hi hv 6 svf pa pb pc zc zr zl zw zf hsv) (cwV 0 hts gX1_save_X1_dropOldest rfl rfl rfl (by decide +kernel) ⟨Nat.le_of_ble_eq_true rfl, Nat.le_of_ble_eq_true rfl⟩) (As := []) (rest := []) (ci := 1) (q0 := 0) rfl rfl rfl hl.1 rfl (Nat.le_of_ble_eq_true rfl) dX1_save_10 ⟨Nat.le_of_ble_eq_true rfl, Nat.le_of_ble_eq_true rfl⟩ (fun u_10 H locs hq hP hD hS => ?_)
  have hq_10 : (∀ i, i < 5 → u_10 i = some (pa (i + 1))) ∧ u_10 5 = some (pa 0) := hq
  have hP : va_P D vwCl (oX1 hi 5 hv :: oX7 w wb ws wc wr wl ww wf :: aI cI wb 10 wbl :: aI cI ws 3 wse :: aW cW hv 6 u_10 :: oX7 (pa 0) (pb 0) (pc 0) (zc 0) (zr 0) (zl 0) (zw 0) (zf 0) :: aI cI (pb 0) 10 (zb 0) :: aI cI (pc 0) 3 (zs 0) :: oX7 (pa 1) (pb 1) (pc 1) (zc 1) (zr 1) (zl 1) (zw 1) (zf 1) :: aI cI (pb 1) 10 (zb 1) :: aI cI (pc 1) 3 (zs 1) :: oX7 (pa 2) (pb 2) (pc 2) (zc 2) (zr 2) (zl 2) (zw 2) (zf 2) :: aI cI (pb 2) 10 (zb 2) :: aI cI (pc 2) 3 (zs 2) :: oX7 (pa 3) (pb 3) (pc 3) (zc 3) (zr 3) (zl 3) (zw 3) (zf 3) :: aI cI (pb 3) 10 (zb 3) :: aI cI (pc 3) 3 (zs 3) :: oX7 (pa 4) (pb 4) (pc 4) (zc 4) (zr 4) (zl 4) (zw 4) (zf 4) :: aI cI (pb 4) 10 (zb 4) :: aI cI (pc 4) 3 (zs 4) :: oX7 (pa 5) (pb 5) (pc 5) (zc 5) (zr 5) (zl 5) (zw 5) (zf 5) :: aI cI (pb 5) 10 (zb 5) :: aI cI (pc 5) 3 (zs 5) :: X) H := pm_P hP 23 [0, 8, 9, 10, 1, 2, 11, 12, 3, 13, 14, 4, 15, 16, 5, 17, 18, 6, 19, 20, 7, 21, 22] rfl
  have hD : va_D A (oX1 hi 5 hv :: oX7 w wb ws wc wr wl ww wf :: aI cI wb 10 wbl :: aI cI ws 3 wse :: aW cW hv 6 u_10 :: oX7 (pa 0) (pb 0) (pc 0) (zc 0) (zr 0) (zl 0) (zw 0) (zf 0) :: aI cI (pb 0) 10 (zb 0) :: aI cI (pc 0) 3 (zs 0) :: oX7 (pa 1) (pb 1) (pc 1) (zc 1) (zr 1) (zl 1) (zw 1) (zf 1) :: aI cI (pb 1) 10 (zb 1) :: aI cI (pc 1) 3 (zs 1) :: oX7 (pa 2) (pb 2) (pc 2) (zc 2) (zr 2) (zl 2) (zw 2) (zf 2) :: aI cI (pb 2) 10 (zb 2) :: aI cI (pc 2) 3 (zs 2) :: oX7 (pa 3) (pb 3) (pc 3) (zc 3) (zr 3) (zl 3) (zw 3) (zf 3) :: aI cI (pb 3) 10 (zb 3) :: aI cI (pc 3) 3 (zs 3) :: oX7 (pa 4) (pb 4) (pc 4) (zc 4) (zr 4) (zl 4) (zw 4) (zf 4) :: aI cI (pb 4) 10 (zb 4) :: aI cI (pc 4) 3 (zs 4) :: oX7 (pa 5) (pb 5) (pc 5) (zc 5) (zr 5) (zl 5) (zw 5) (zf 5) :: aI cI (pb 5) 10 (zb 5) :: aI cI (pc 5) 3 (zs 5) :: X) := pm_D hD 23 [0, 8, 9, 10, 1, 2, 11, 12, 3, 13, 14, 4, 15, 16, 5, 17, 18, 6, 19, 20, 7, 21, 22] rfl rfl rfl
  refine lv_aload_n hx hb dX1_save_13 rfl (lv_at hl 0 rfl) ?_
  refine va_get (D := D) (ci := 1) (v := .int 5) (C := RX1) (T := TX1) (N := 2) hx hb hts hiX1 hown hK hP 0 rfl rfl 0 (by decide) (hts (.fieldLink RX1 18 "LedgeLeaps$History" "size" "I") (List.mem_of_getElem? (i := 1) rfl)) (fun _ h9 => h9) rfl dX1_save_14 ?_
  have c_17 : ¬ (5 : Int32) < 0 := by decide
  refine lv_if_lt (tgt := 41) hx hb dX1_save_17 (by decide) (fun q => absurd q c_17) (fun _ => ?_)
  refine lv_aload_n hx hb dX1_save_20 rfl (lv_at hl 0 rfl) ?_
  refine va_get (D := D) (ci := 1) (v := .int 5) (C := RX1) (T := TX1) (N := 2) hx hb hts hiX1 hown hK hP 0 rfl rfl 0 (by decide) (hts (.fieldLink RX1 18 "LedgeLeaps$History" "size" "I") (List.mem_of_getElem? (i := 1) rfl)) (fun _ h9 => h9) rfl dX1_save_21 ?_
  refine lv_bipush (v := 6) hx hb dX1_save_24 (by decide) ?_
  have c_26 : ¬ (6 : Int32) ≤ 5 := by decide
  refine lv_icmp_ge (tgt := 41) hx hb dX1_save_26 (by decide) (fun q => absurd q c_26) (fun _ => ?_)
  refine lv_aload_n hx hb dX1_save_29 rfl (lv_at hl 0 rfl) ?_
  refine va_get (D := D) (ci := 1) (v := .ref hv) (C := RX1) (T := TX1) (N := 2) hx hb hts hiX1 hown hK hP 0 rfl rfl 1 (by decide) (hts (.fieldLink RX1 11 "LedgeLeaps$History" "saved" "[LLedgeLeaps$World;") (List.mem_of_getElem? (i := 2) rfl)) (fun _ h9 => h9) rfl dX1_save_30 ?_
  refine lv_aload_n hx hb dX1_save_33 rfl (lv_at hl 0 rfl) ?_
  refine va_get (D := D) (ci := 1) (v := .int 5) (C := RX1) (T := TX1) (N := 2) hx hb hts hiX1 hown hK hP 0 rfl rfl 0 (by decide) (hts (.fieldLink RX1 18 "LedgeLeaps$History" "size" "I") (List.mem_of_getElem? (i := 1) rfl)) (fun _ h9 => h9) rfl dX1_save_34 ?_
  refine va_aldr (v := (pa 0)) hx hb hK hP 4 2 rfl rfl (show ¬ ((5 : Int32) < 0 ∨ 6 ≤ (5 : Int32).toNatClampNeg) by decide) (hq_10.2) dX1_save_37 ?_
  refine lv_goto (tgt := 42) hx hb dX1_save_38 (by decide) ?_
  refine lv_astore_n (lv' := [(2, .ref (pa 0)), (0, .ref hi), (1, .ref w)]) hx hb dX1_save_42 rfl hl (by decide) rfl (fun ls hl => ?_)
  refine lv_aload_n hx hb dX1_save_43 rfl (lv_at hl 0 rfl) ?_
  refine lv_ifnull hx hb dX1_save_44 ?_
  refine lv_aload_n hx hb dX1_save_47 rfl (lv_at hl 0 rfl) ?_
  refine lv_aload_n hx hb dX1_save_48 rfl (lv_at hl 2 rfl) ?_
  refine cV_v CF hK hN hA hS (cut_of 23 [5, 6, 7, 1, 2, 3, 0, 4, 8, 9, 10, 11, 12, 13, 14, 15, 16, 17, 18, 19, 20, 21, 22] hP hD rfl rfl rfl) (m_becomeLike l D cI cZ cW cJ A (oX1 hi 5 hv :: aW cW hv 6 u_10 :: oX7 (pa 1) (pb 1) (pc 1) (zc 1) (zr 1) (zl 1) (zw 1) (zf 1) :: aI cI (pb 1) 10 (zb 1) :: aI cI (pc 1) 3 (zs 1) :: oX7 (pa 2) (pb 2) (pc 2) (zc 2) (zr 2) (zl 2) (zw 2) (zf 2) :: aI cI (pb 2) 10 (zb 2) :: aI cI (pc 2) 3 (zs 2) :: oX7 (pa 3) (pb 3) (pc 3) (zc 3) (zr 3) (zl 3) (zw 3) (zf 3) :: aI cI (pb 3) 10 (zb 3) :: aI cI (pc 3) 3 (zs 3) :: oX7 (pa 4) (pb 4) (pc 4) (zc 4) (zr 4) (zl 4) (zw 4) (zf 4) :: aI cI (pb 4) 10 (zb 4) :: aI cI (pc 4) 3 (zs 4) :: oX7 (pa 5) (pb 5) (pc 5) (zc 5) (zr 5) (zl 5) (zw 5) (zf 5) :: aI cI (pb 5) 10 (zb 5) :: aI cI (pc 5) 3 (zs 5) :: X) (pa 0) (pb 0) (pc 0) (zc 0) (zr 0) (zl 0) (zw 0) (zf 0) (zb 0) (zs 0) w wb ws wc wr wl ww wf wbl wse) (cwV 1 hts gX1_save_X7_becomeLike rfl rfl rfl (by decide +kernel) ⟨Nat.le_of_ble_eq_true rfl, Nat.le_of_ble_eq_true rfl⟩) (As := [.ref w]) (rest := []) (ci := 7) (q0 := 0) rfl rfl rfl hl.1 rfl (Nat.le_of_ble_eq_true rfl) dX1_save_49 ⟨Nat.le_of_ble_eq_true rfl, Nat.le_of_ble_eq_true rfl⟩ (fun u_49 H locs hq hP hD hS => ?_)
  have hq_49 : (∀ j, j < 10 → u_49.1 j = wbl j) ∧ (∀ j, j < 3 → u_49.2 j = wse j) := hq
  have hP : va_P D vwCl (oX1 hi 5 hv :: oX7 w wb ws wc wr wl ww wf :: aI cI wb 10 wbl :: aI cI ws 3 wse :: aW cW hv 6 u_10 :: oX7 (pa 0) (pb 0) (pc 0) wc wr wl ww wf :: aI cI (pb 0) 10 u_49.1 :: aI cI (pc 0) 3 u_49.2 :: oX7 (pa 1) (pb 1) (pc 1) (zc 1) (zr 1) (zl 1) (zw 1) (zf 1) :: aI cI (pb 1) 10 (zb 1) :: aI cI (pc 1) 3 (zs 1) :: oX7 (pa 2) (pb 2) (pc 2) (zc 2) (zr 2) (zl 2) (zw 2) (zf 2) :: aI cI (pb 2) 10 (zb 2) :: aI cI (pc 2) 3 (zs 2) :: oX7 (pa 3) (pb 3) (pc 3) (zc 3) (zr 3) (zl 3) (zw 3) (zf 3) :: aI cI (pb 3) 10 (zb 3) :: aI cI (pc 3) 3 (zs 3) :: oX7 (pa 4) (pb 4) (pc 4) (zc 4) (zr 4) (zl 4) (zw 4) (zf 4) :: aI cI (pb 4) 10 (zb 4) :: aI cI (pc 4) 3 (zs 4) :: oX7 (pa 5) (pb 5) (pc 5) (zc 5) (zr 5) (zl 5) (zw 5) (zf 5) :: aI cI (pb 5) 10 (zb 5) :: aI cI (pc 5) 3 (zs 5) :: X) H := pm_P hP 23 [6, 3, 4, 5, 7, 0, 1, 2, 8, 9, 10, 11, 12, 13, 14, 15, 16, 17, 18, 19, 20, 21, 22] rfl
  have hD : va_D A (oX1 hi 5 hv :: oX7 w wb ws wc wr wl ww wf :: aI cI wb 10 wbl :: aI cI ws 3 wse :: aW cW hv 6 u_10 :: oX7 (pa 0) (pb 0) (pc 0) wc wr wl ww wf :: aI cI (pb 0) 10 u_49.1 :: aI cI (pc 0) 3 u_49.2 :: oX7 (pa 1) (pb 1) (pc 1) (zc 1) (zr 1) (zl 1) (zw 1) (zf 1) :: aI cI (pb 1) 10 (zb 1) :: aI cI (pc 1) 3 (zs 1) :: oX7 (pa 2) (pb 2) (pc 2) (zc 2) (zr 2) (zl 2) (zw 2) (zf 2) :: aI cI (pb 2) 10 (zb 2) :: aI cI (pc 2) 3 (zs 2) :: oX7 (pa 3) (pb 3) (pc 3) (zc 3) (zr 3) (zl 3) (zw 3) (zf 3) :: aI cI (pb 3) 10 (zb 3) :: aI cI (pc 3) 3 (zs 3) :: oX7 (pa 4) (pb 4) (pc 4) (zc 4) (zr 4) (zl 4) (zw 4) (zf 4) :: aI cI (pb 4) 10 (zb 4) :: aI cI (pc 4) 3 (zs 4) :: oX7 (pa 5) (pb 5) (pc 5) (zc 5) (zr 5) (zl 5) (zw 5) (zf 5) :: aI cI (pb 5) 10 (zb 5) :: aI cI (pc 5) 3 (zs 5) :: X) := pm_D hD 23 [6, 3, 4, 5, 7, 0, 1, 2, 8, 9, 10, 11, 12, 13, 14, 15, 16, 17, 18, 19, 20, 21, 22] rfl rfl rfl
  refine lv_aload_n hx hb dX1_save_52 rfl (lv_at hl 1 rfl) ?_
  refine lv_dup hx hb dX1_save_53 rfl ?_
  refine va_get (D := D) (ci := 1) (v := .int 5) (C := RX1) (T := TX1) (N := 2) hx hb hts hiX1 hown hK hP 0 rfl rfl 0 (by decide) (hts (.fieldLink RX1 18 "LedgeLeaps$History" "size" "I") (List.mem_of_getElem? (i := 1) rfl)) (fun _ h9 => h9) rfl dX1_save_54 ?_
  refine lv_iconst (v := 1) hx hb dX1_save_57 (by decide) ?_
  refine lv_iadd hx hb dX1_save_58 ?_
  refine top_i (y := 6) (by decide) ?_
  refine va_put (D := D) (ci := 1) (v := .int 6) (ty := .int) (C := RX1) (T := TX1) (N := 2) hx hb hts hiX1 tyX1 tyX1_ok nmX1 hown hK hP hD hS 0 rfl rfl 0 (by decide) (hts (.fieldLink RX1 18 "LedgeLeaps$History" "size" "I") (List.mem_of_getElem? (i := 1) rfl)) (fun _ h9 => h9) rfl (by decide +kernel) rfl rfl (Nat.le_of_ble_eq_true rfl) dX1_save_59 (fun H locs hP hD hS => ?_)
  have hP : va_P D vwCl (oX1 hi 6 hv :: oX7 w wb ws wc wr wl ww wf :: aI cI wb 10 wbl :: aI cI ws 3 wse :: aW cW hv 6 u_10 :: oX7 (pa 0) (pb 0) (pc 0) wc wr wl ww wf :: aI cI (pb 0) 10 u_49.1 :: aI cI (pc 0) 3 u_49.2 :: oX7 (pa 1) (pb 1) (pc 1) (zc 1) (zr 1) (zl 1) (zw 1) (zf 1) :: aI cI (pb 1) 10 (zb 1) :: aI cI (pc 1) 3 (zs 1) :: oX7 (pa 2) (pb 2) (pc 2) (zc 2) (zr 2) (zl 2) (zw 2) (zf 2) :: aI cI (pb 2) 10 (zb 2) :: aI cI (pc 2) 3 (zs 2) :: oX7 (pa 3) (pb 3) (pc 3) (zc 3) (zr 3) (zl 3) (zw 3) (zf 3) :: aI cI (pb 3) 10 (zb 3) :: aI cI (pc 3) 3 (zs 3) :: oX7 (pa 4) (pb 4) (pc 4) (zc 4) (zr 4) (zl 4) (zw 4) (zf 4) :: aI cI (pb 4) 10 (zb 4) :: aI cI (pc 4) 3 (zs 4) :: oX7 (pa 5) (pb 5) (pc 5) (zc 5) (zr 5) (zl 5) (zw 5) (zf 5) :: aI cI (pb 5) 10 (zb 5) :: aI cI (pc 5) 3 (zs 5) :: X) H := hP
  have hD : va_D A (oX1 hi 6 hv :: oX7 w wb ws wc wr wl ww wf :: aI cI wb 10 wbl :: aI cI ws 3 wse :: aW cW hv 6 u_10 :: oX7 (pa 0) (pb 0) (pc 0) wc wr wl ww wf :: aI cI (pb 0) 10 u_49.1 :: aI cI (pc 0) 3 u_49.2 :: oX7 (pa 1) (pb 1) (pc 1) (zc 1) (zr 1) (zl 1) (zw 1) (zf 1) :: aI cI (pb 1) 10 (zb 1) :: aI cI (pc 1) 3 (zs 1) :: oX7 (pa 2) (pb 2) (pc 2) (zc 2) (zr 2) (zl 2) (zw 2) (zf 2) :: aI cI (pb 2) 10 (zb 2) :: aI cI (pc 2) 3 (zs 2) :: oX7 (pa 3) (pb 3) (pc 3) (zc 3) (zr 3) (zl 3) (zw 3) (zf 3) :: aI cI (pb 3) 10 (zb 3) :: aI cI (pc 3) 3 (zs 3) :: oX7 (pa 4) (pb 4) (pc 4) (zc 4) (zr 4) (zl 4) (zw 4) (zf 4) :: aI cI (pb 4) 10 (zb 4) :: aI cI (pc 4) 3 (zs 4) :: oX7 (pa 5) (pb 5) (pc 5) (zc 5) (zr 5) (zl 5) (zw 5) (zf 5) :: aI cI (pb 5) 10 (zb 5) :: aI cI (pc 5) 3 (zs 5) :: X) := hD
  have hP := pm_P hP 23 [0, 1, 2, 3, 4, 8, 9, 10, 11, 12, 13, 14, 15, 16, 17, 18, 19, 20, 21, 22, 5, 6, 7] rfl
  have hD := pm_D hD 23 [0, 1, 2, 3, 4, 8, 9, 10, 11, 12, 13, 14, 15, 16, 17, 18, 19, 20, 21, 22, 5, 6, 7] rfl rfl rfl
  have hPD := blk_back (w := [oX1 hi 6 hv, oX7 w wb ws wc wr wl ww wf, aI cI wb 10 wbl, aI cI ws 3 wse]) (B := [aW cW hv 6 u_10, oX7 (pa 1) (pb 1) (pc 1) (zc 1) (zr 1) (zl 1) (zw 1) (zf 1), aI cI (pb 1) 10 (zb 1), aI cI (pc 1) 3 (zs 1), oX7 (pa 2) (pb 2) (pc 2) (zc 2) (zr 2) (zl 2) (zw 2) (zf 2), aI cI (pb 2) 10 (zb 2), aI cI (pc 2) 3 (zs 2), oX7 (pa 3) (pb 3) (pc 3) (zc 3) (zr 3) (zl 3) (zw 3) (zf 3), aI cI (pb 3) 10 (zb 3), aI cI (pc 3) 3 (zs 3), oX7 (pa 4) (pb 4) (pc 4) (zc 4) (zr 4) (zl 4) (zw 4) (zf 4), aI cI (pb 4) 10 (zb 4), aI cI (pc 4) 3 (zs 4), oX7 (pa 5) (pb 5) (pc 5) (zc 5) (zr 5) (zl 5) (zw 5) (zf 5), aI cI (pb 5) 10 (zb 5), aI cI (pc 5) 3 (zs 5), oX7 (pa 0) (pb 0) (pc 0) wc wr wl ww wf, aI cI (pb 0) 10 u_49.1, aI cI (pc 0) 3 u_49.2]) hP hD
  have hP := hPD.1
  have hD := hPD.2
  have hnew : HistR cI cW hv (pushH hist 6 S) (pushN 6) [aW cW hv 6 u_10, oX7 (pa 1) (pb 1) (pc 1) (zc 1) (zr 1) (zl 1) (zw 1) (zf 1), aI cI (pb 1) 10 (zb 1), aI cI (pc 1) 3 (zs 1), oX7 (pa 2) (pb 2) (pc 2) (zc 2) (zr 2) (zl 2) (zw 2) (zf 2), aI cI (pb 2) 10 (zb 2), aI cI (pc 2) 3 (zs 2), oX7 (pa 3) (pb 3) (pc 3) (zc 3) (zr 3) (zl 3) (zw 3) (zf 3), aI cI (pb 3) 10 (zb 3), aI cI (pc 3) 3 (zs 3), oX7 (pa 4) (pb 4) (pc 4) (zc 4) (zr 4) (zl 4) (zw 4) (zf 4), aI cI (pb 4) 10 (zb 4), aI cI (pc 4) 3 (zs 4), oX7 (pa 5) (pb 5) (pc 5) (zc 5) (zr 5) (zl 5) (zw 5) (zf 5), aI cI (pb 5) 10 (zb 5), aI cI (pc 5) 3 (zs 5), oX7 (pa 0) (pb 0) (pc 0) wc wr wl ww wf, aI cI (pb 0) 10 u_49.1, aI cI (pc 0) 3 u_49.2] := by
    refine ⟨u_10, (va_up (fun i => pa (i + 1)) 5 (pa 0)), (va_up (fun i => pb (i + 1)) 5 (pb 0)), (va_up (fun i => pc (i + 1)) 5 (pc 0)), (va_up (fun i => zb (i + 1)) 5 u_49.1), (va_up (fun i => zs (i + 1)) 5 u_49.2), (va_up (fun i => zc (i + 1)) 5 wc), (va_up (fun i => zr (i + 1)) 5 wr), (va_up (fun i => zl (i + 1)) 5 wl), (va_up (fun i => zw (i + 1)) 5 ww), (va_up (fun i => zf (i + 1)) 5 wf), rfl, ?_, by decide, ?_⟩
    · exact fun i hi => by rcases (show i = 0 ∨ i = 1 ∨ i = 2 ∨ i = 3 ∨ i = 4 ∨ i = 5 by omega) with rfl | rfl | rfl | rfl | rfl | rfl <;> first | exact hsv _ (by decide) | exact hq_10.2 | exact hq_10.1 _ (by decide)
    · exact fun i hi => by
        have hi : i < 6 := hi
        show AbsX (if i = 5 then S else hist (i + 1)) (va_up (fun i => zb (i + 1)) 5 u_49.1 i) (va_up (fun i => zs (i + 1)) 5 u_49.2 i) (va_up (fun i => zc (i + 1)) 5 wc i) (va_up (fun i => zr (i + 1)) 5 wr i) (va_up (fun i => zl (i + 1)) 5 wl i) (va_up (fun i => zw (i + 1)) 5 ww i) (va_up (fun i => zf (i + 1)) 5 wf i)
        by_cases q : i = 5
        · subst q; rw [if_pos rfl]; simp only [up_s]; exact hS0.cong hq_49.1 hq_49.2
        · rw [if_neg q]; simp only [up_n q]; exact hH (i + 1) (by omega)
  exact W.vret hx hb hr (fun t9 ht9 hW9 => ⟨⟨_, rfl, hnew, by rw [ht9]; exact hP, hD⟩, hS.F ht9⟩) hS.2.2 dX1_save_62
theorem m_save (l : Launch) (D : va_G) (cI cZ cW cJ : ClassId) (A : Nat → Prop) (X : va_W) (hi hv : Nat) (w wb ws : Nat) (wc wr wl ww wf : Int32) (wbl wse : Nat → Int32) (HR : va_W) (hist : Nat → KS) (S : KS) (hn : Nat) (hR : HistR cI cW hv hist hn HR) (hS0 : AbsX S wbl wse wc wr wl ww wf) : Met l yX1_save wsX1_save ({ frames := 2, cells := 0, slots := 0, locals := 61 }) (va_Pc [.ref hi, .ref w] (wd D (tyL cI cZ cW cJ) A (oX1 hi (nI hn) hv :: oX7 w wb ws wc wr wl ww wf :: aI cI wb 10 wbl :: aI cI ws 3 wse :: (X ++ HR)))) (va_Qv (fun (u : va_W) => HistR cI cW hv (pushH hist hn S) (pushN hn) u) (fun (u : va_W) t => wq D A (oX1 hi (nI (pushN hn)) hv :: oX7 w wb ws wc wr wl ww wf :: aI cI wb 10 wbl :: aI cI ws 3 wse :: (X ++ u)) t) A) 0 0 A := by
  have h6 : hn ≤ 6 := by obtain ⟨_, _, _, _, _, _, _, _, _, _, _, _, _, h, _⟩ := hR; exact h
  rcases (show hn = 0 ∨ hn = 1 ∨ hn = 2 ∨ hn = 3 ∨ hn = 4 ∨ hn = 5 ∨ hn = 6 by omega) with rfl | rfl | rfl | rfl | rfl | rfl | rfl
  · exact m_save_0 l D cI cZ cW cJ A X hi hv w wb ws wc wr wl ww wf wbl wse HR hist S hR hS0
  · exact m_save_1 l D cI cZ cW cJ A X hi hv w wb ws wc wr wl ww wf wbl wse HR hist S hR hS0
  · exact m_save_2 l D cI cZ cW cJ A X hi hv w wb ws wc wr wl ww wf wbl wse HR hist S hR hS0
  · exact m_save_3 l D cI cZ cW cJ A X hi hv w wb ws wc wr wl ww wf wbl wse HR hist S hR hS0
  · exact m_save_4 l D cI cZ cW cJ A X hi hv w wb ws wc wr wl ww wf wbl wse HR hist S hR hS0
  · exact m_save_5 l D cI cZ cW cJ A X hi hv w wb ws wc wr wl ww wf wbl wse HR hist S hR hS0
  · exact m_save_6 l D cI cZ cW cJ A X hi hv w wb ws wc wr wl ww wf wbl wse HR hist S hR hS0
