set_option maxHeartbeats 4000000 in
set_option maxRecDepth 100000 in
theorem m_atT (l : Launch) (D : va_G) (cI cZ cW cJ : ClassId) (A : Nat → Prop) (X : va_W) (t0 : Nat) (ix : Int32) : Met l yX8_at wsX8_at ({ frames := 0, cells := 0, slots := 0, locals := 0 }) (va_Pc [.ref t0, .int ix] (wt t0 D (tyL cI cZ cW cJ) A (X))) (va_Qi (fun (r : Int32) (u : Unit) => r = atX 3 gvI ix) (fun (u : Unit) t => wq D A (X) t) A) 0 0 A := by
  refine Met.ofW (cc := cX8_at) (maxL := 2) (ret := (some .int)) (by decide) rfl ?_
  intro p e s m args below meth c s₁ B hml hv
  obtain ⟨rfl, ⟨hsz9, hP, hK, hD, hN⟩, hT⟩ := hv
  have hx := B.exec
  have hb := B.bytes
  have hr := B.returns
  have hts := atoms_spec (ws := wsX8_at) B.pre
  have hown : s.vm.findClass RX8 = some m.cls := findClass_of_methodNamed B.named
  have hlocks := B.notSynchronized
  have CF : CallFix p m c cX8_at 2 s _ wsX8_at RX8 := ⟨hx, hb, hml, hown, hts⟩
  have hA : ∀ q : Nat, s.heap.size ≤ q → A q := hsz9
  have hS : va_S A s.heap s.heap [] := va_S.rf
  have hl := lv_entry ([.ref t0, .int ix]) (n := 2) (Nat.le_of_ble_eq_true rfl)
  rw [lg_entry_eq]
  generalize (lg_sl ([.ref t0, .int ix]) ++ List.replicate (2 - (lg_sl ([.ref t0, .int ix])).length) Slot.unset).toArray = ls at hl ⊢
  have hl : lv_has ls 2 [(0, .ref t0), (1, .int ix)] := hl
  show W p l e ({ frames := 0, cells := 0, slots := 0, locals := 0 } : Room) s m (([.ref t0, .int ix] : List Value).toArray) below meth c s.heap [] 0 0 (MQ below (va_Qi (fun (r : Int32) (u : Unit) => r = atX 3 gvI ix) (fun (u : Unit) t => wq D A (X) t) A) (([.ref t0, .int ix] : List Value).toArray) s 0 0 A) (F0 m 0 ls [])
  refine lv_iload_n hx hb dX8_at_0 rfl (lv_at hl 1 rfl) ?_
  refine lv_if_lt (tgt := 16) hx hb dX8_at_1 (by decide) (fun c_1 => ?_) (fun c_1 => ?_)
  · refine lv_iconst (v := (-1)) hx hb dX8_at_16 (by decide) ?_
    exact W.iret (v := (-1)) hx hb hr (fun t9 ht9 hW9 => ⟨⟨(-1), (), rfl, by simp [atX, show (nI 3) = 3 from rfl, c_1], by rw [ht9]; exact hP, hD⟩, hS.F ht9⟩) hS.2.2 dX8_at_17
  · refine lv_iload_n hx hb dX8_at_4 rfl (lv_at hl 1 rfl) ?_
    refine lv_aload_n hx hb dX8_at_5 rfl (lv_at hl 0 rfl) ?_
    refine va_tlen (v := 3) hx hb hT hS rfl dX8_at_6 ?_
    refine lv_icmp_ge (tgt := 16) hx hb dX8_at_7 (by decide) (fun c_7 => ?_) (fun c_7 => ?_)
    · refine lv_iconst (v := (-1)) hx hb dX8_at_16 (by decide) ?_
      exact W.iret (v := (-1)) hx hb hr (fun t9 ht9 hW9 => ⟨⟨(-1), (), rfl, by simp [atX, show (nI 3) = 3 from rfl, c_1, c_7], by rw [ht9]; exact hP, hD⟩, hS.F ht9⟩) hS.2.2 dX8_at_17
    · refine lv_aload_n hx hb dX8_at_10 rfl (lv_at hl 0 rfl) ?_
      refine lv_iload_n hx hb dX8_at_11 rfl (lv_at hl 1 rfl) ?_
      refine va_ti (v := .int (gvI ix.toNatClampNeg)) hx hb hT hS (vp_in_d (by decide) c_1 c_7) rfl dX8_at_12 ?_
      refine lv_goto (tgt := 17) hx hb dX8_at_13 (by decide) ?_
      exact W.iret (v := (gvI ix.toNatClampNeg)) hx hb hr (fun t9 ht9 hW9 => ⟨⟨(gvI ix.toNatClampNeg), (), rfl, by simp [atX, show (nI 3) = 3 from rfl, c_1, c_7], by rw [ht9]; exact hP, hD⟩, hS.F ht9⟩) hS.2.2 dX8_at_17
set_option maxHeartbeats 4000000 in
set_option maxRecDepth 100000 in
theorem m_set (l : Launch) (D : va_G) (cI cZ cW cJ : ClassId) (A : Nat → Prop) (X : va_W) (t0 : Nat) (xo hi sn tx f mm re ro : Nat) (mk rk : Bool) (w wb ws : Nat) (wc wr wl ww wf : Int32) (wbl wse : Nat → Int32) (hv : Nat) (HR : va_W) (hist : Nat → KS) (hn : Nat) (S : KS) (xk xv : Int32) (hS0 : AbsX S wbl wse wc wr wl ww wf) (hR : HistR cI cW hv hist hn HR) (hpe : ∀ E : String, ¬ ((E = "java/lang/IndexOutOfBoundsException" ∧ isSetX xk = false) ∨ (E = "java/lang/IllegalArgumentException" ∧ ∃ k : Nat, k < 3 ∧ xk = nI k ∧ (xv < 1 ∨ gvI k < xv)))) : Met l yX8_set wsX8_set ({ frames := 3, cells := 0, slots := 0, locals := 83 }) (va_Pc [.ref xo, .int xk, .int xv] (wz t0 D (tyL cI cZ cW cJ) A (oX8 xo w hi sn tx f mm re ro (bI mk) (bI rk) :: oX7 w wb ws wc wr wl ww wf :: aI cI wb 10 wbl :: aI cI ws 3 wse :: oX1 hi (nI hn) hv :: (X ++ HR)))) (va_Qi (fun (r : Int32) (u : va_W × (Nat → Int32)) => (∃ k : Nat, k < 3 ∧ xk = nI k ∧ ¬ xv < 1 ∧ xv ≤ gvI k ∧ r = setS S k ∧ AbsX (putSet S k xv) wbl u.2 wc wr wl ww wf) ∧ HistR cI cW hv (pushH hist hn S) (pushN hn) u.1) (fun (u : va_W × (Nat → Int32)) t => wq D A (oX8 xo w hi sn tx f mm re ro (bI false) (bI false) :: oX7 w wb ws wc wr wl ww wf :: aI cI wb 10 wbl :: aI cI ws 3 u.2 :: oX1 hi (nI (pushN hn)) hv :: (X ++ u.1)) t) A) 0 0 A := by
  refine Met.ofW (cc := cX8_set) (maxL := 4) (ret := (some .int)) (by decide) rfl ?_
  intro p e s m args below meth c s₁ B hml hv
  obtain ⟨rfl, ⟨hsz9, hP, hK, hD, hN⟩, hZ, hT⟩ := hv
  have hx := B.exec
  have hb := B.bytes
  have hr := B.returns
  have hts := atoms_spec (ws := wsX8_set) B.pre
  have hown : s.vm.findClass RX8 = some m.cls := findClass_of_methodNamed B.named
  have hlocks := B.notSynchronized
  have CF : CallFix p m c cX8_set 4 s _ wsX8_set RX8 := ⟨hx, hb, hml, hown, hts⟩
  have hA : ∀ q : Nat, s.heap.size ≤ q → A q := hsz9
  have hS : va_S A s.heap s.heap [] := va_S.rf
  have hiX7 : ∀ w ∈ u_ws RX7 TX7 7, w ∈ wsX8_set := fun _ h => List.mem_cons_of_mem _ (List.mem_append_left _ (List.mem_append_left _ (List.mem_append_left _ (List.mem_append_right _ (h)))))
  have hiX8 : ∀ w ∈ u_ws RX8 TX8 10, w ∈ wsX8_set := fun _ h => List.mem_cons_of_mem _ (List.mem_append_left _ (List.mem_append_left _ (List.mem_append_left _ (List.mem_append_left _ (List.mem_append_right _ (h))))))
  have hl := lv_entry ([.ref xo, .int xk, .int xv]) (n := 4) (Nat.le_of_ble_eq_true rfl)
  rw [lg_entry_eq]
  generalize (lg_sl ([.ref xo, .int xk, .int xv]) ++ List.replicate (4 - (lg_sl ([.ref xo, .int xk, .int xv])).length) Slot.unset).toArray = ls at hl ⊢
  have hl : lv_has ls 4 [(0, .ref xo), (1, .int xk), (2, .int xv)] := hl
  show W p l e ({ frames := 3, cells := 0, slots := 0, locals := 83 } : Room) s m (([.ref xo, .int xk, .int xv] : List Value).toArray) below meth c s.heap [] 0 0 (MQ below (va_Qi (fun (r : Int32) (u : va_W × (Nat → Int32)) => (∃ k : Nat, k < 3 ∧ xk = nI k ∧ ¬ xv < 1 ∧ xv ≤ gvI k ∧ r = setS S k ∧ AbsX (putSet S k xv) wbl u.2 wc wr wl ww wf) ∧ HistR cI cW hv (pushH hist hn S) (pushN hn) u.1) (fun (u : va_W × (Nat → Int32)) t => wq D A (oX8 xo w hi sn tx f mm re ro (bI false) (bI false) :: oX7 w wb ws wc wr wl ww wf :: aI cI wb 10 wbl :: aI cI ws 3 u.2 :: oX1 hi (nI (pushN hn)) hv :: (X ++ u.1)) t) A) (([.ref xo, .int xk, .int xv] : List Value).toArray) s 0 0 A) (F0 m 0 ls [])
  refine lv_iload_n hx hb dX8_set_0 rfl (lv_at hl 1 rfl) ?_
  refine cS_i CF hK hN hA hS (cut_of 5 [0, 1, 2, 3, 4] hP hD rfl rfl rfl) (m_isSetting l D cI cZ cW cJ A (oX8 xo w hi sn tx f mm re ro (bI mk) (bI rk) :: oX7 w wb ws wc wr wl ww wf :: aI cI wb 10 wbl :: aI cI ws 3 wse :: oX1 hi (nI hn) hv :: (X ++ HR)) xk) (va_cwS 1 hts gX8_set_X8_isSetting rfl rfl rfl (by decide +kernel) ⟨Nat.le_of_ble_eq_true rfl, Nat.le_of_ble_eq_true rfl⟩) (As := [.int xk]) (rest := []) rfl hl.1 rfl (Nat.le_of_ble_eq_true rfl) dX8_set_1 ⟨Nat.le_of_ble_eq_true rfl, Nat.le_of_ble_eq_true rfl⟩ (fun r_1 _ H locs hq hP hD hS => ?_)
  have hq : r_1 = bI (isSetX xk) := hq
  subst hq
  have hP : va_P D vwCl (oX8 xo w hi sn tx f mm re ro (bI mk) (bI rk) :: oX7 w wb ws wc wr wl ww wf :: aI cI wb 10 wbl :: aI cI ws 3 wse :: oX1 hi (nI hn) hv :: (X ++ HR)) H := pm_P hP 5 [0, 1, 2, 3, 4] rfl
  have hD : va_D A (oX8 xo w hi sn tx f mm re ro (bI mk) (bI rk) :: oX7 w wb ws wc wr wl ww wf :: aI cI wb 10 wbl :: aI cI ws 3 wse :: oX1 hi (nI hn) hv :: (X ++ HR)) := pm_D hD 5 [0, 1, 2, 3, 4] rfl rfl rfl
  refine lv_if_ne (tgt := 17) hx hb dX8_set_4 (by decide) (fun c_4 => ?_) (fun c_4 => ?_)
  · obtain ⟨ks, hks, e1⟩ := isSet_nI (bt_c c_4)
    refine lv_iload_n hx hb dX8_set_17 rfl (lv_at hl 2 rfl) ?_
    refine lv_iconst (v := 1) hx hb dX8_set_18 (by decide) ?_
    refine lv_icmp_lt (tgt := 33) hx hb dX8_set_19 (by decide) (fun c_19 => ?_) (fun c_19 => ?_)
    · exact (hpe "java/lang/IllegalArgumentException" (Or.inr ⟨rfl, ks, hks, e1, Or.inl c_19⟩)).elim
    · refine lv_iload_n hx hb dX8_set_22 rfl (lv_at hl 2 rfl) ?_
      refine va_gets hx hb hZ hS hown (hts (.fieldLink RX8 90 "LedgeLeaps" "GREATEST_VALUES" "[I") (List.mem_of_getElem? (i := 5) rfl)) (fun _ h => h) dX8_set_23 ?_
      refine lv_iload_n hx hb dX8_set_26 rfl (lv_at hl 1 rfl) ?_
      refine top_i (y := (nI ks)) e1 ?_
      refine cST_i hT CF hK hN hA hS (cut_of 5 [0, 1, 2, 3, 4] hP hD rfl rfl rfl) (m_atT l D cI cZ cW cJ A (oX8 xo w hi sn tx f mm re ro (bI mk) (bI rk) :: oX7 w wb ws wc wr wl ww wf :: aI cI wb 10 wbl :: aI cI ws 3 wse :: oX1 hi (nI hn) hv :: (X ++ HR)) t0 (nI ks)) (va_cwS 2 hts gX8_set_X8_at rfl rfl rfl (by decide +kernel) ⟨Nat.le_of_ble_eq_true rfl, Nat.le_of_ble_eq_true rfl⟩) (As := [.ref t0, .int (nI ks)]) (rest := [.int xv]) rfl hl.1 rfl (Nat.le_of_ble_eq_true rfl) dX8_set_27 ⟨Nat.le_of_ble_eq_true rfl, Nat.le_of_ble_eq_true rfl⟩ (fun r_27 _ H locs hq hP hD hS => ?_)
      have hq : r_27 = atX 3 gvI (nI ks) := hq
      subst hq
      have hP : va_P D vwCl (oX8 xo w hi sn tx f mm re ro (bI mk) (bI rk) :: oX7 w wb ws wc wr wl ww wf :: aI cI wb 10 wbl :: aI cI ws 3 wse :: oX1 hi (nI hn) hv :: (X ++ HR)) H := pm_P hP 5 [0, 1, 2, 3, 4] rfl
      have hD : va_D A (oX8 xo w hi sn tx f mm re ro (bI mk) (bI rk) :: oX7 w wb ws wc wr wl ww wf :: aI cI wb 10 wbl :: aI cI ws 3 wse :: oX1 hi (nI hn) hv :: (X ++ HR)) := pm_D hD 5 [0, 1, 2, 3, 4] rfl rfl rfl
      refine top_i (y := (gvI ks)) (at_nI hks (by decide)) ?_
      refine lv_icmp_le (tgt := 43) hx hb dX8_set_30 (by decide) (fun c_30 => ?_) (fun c_30 => ?_)
      · refine lv_aload_n hx hb dX8_set_43 rfl (lv_at hl 0 rfl) ?_
        refine va_get (D := D) (ci := 8) (v := .ref hi) (C := RX8) (T := TX8) (N := 10) hx hb hts hiX8 hown hK hP 0 rfl rfl 1 (by decide) (hts (.fieldLink RX8 19 "LedgeLeaps" "history" "LLedgeLeaps$History;") (List.mem_of_getElem? (i := 6) rfl)) (fun _ h9 => h9) rfl dX8_set_44 ?_
        refine lv_aload_n hx hb dX8_set_47 rfl (lv_at hl 0 rfl) ?_
        refine va_get (D := D) (ci := 8) (v := .ref w) (C := RX8) (T := TX8) (N := 10) hx hb hts hiX8 hown hK hP 0 rfl rfl 0 (by decide) (hts (.fieldLink RX8 12 "LedgeLeaps" "world" "LLedgeLeaps$World;") (List.mem_of_getElem? (i := 7) rfl)) (fun _ h9 => h9) rfl dX8_set_48 ?_
        refine cV_v CF hK hN hA hS (cut_of 5 [4, 1, 2, 3, 0] hP hD rfl rfl rfl) (m_save l D cI cZ cW cJ A (oX8 xo w hi sn tx f mm re ro (bI mk) (bI rk) :: X) hi hv w wb ws wc wr wl ww wf wbl wse HR hist S hn hR hS0) (cwV 1 hts gX8_set_X1_save rfl rfl rfl (by decide +kernel) ⟨Nat.le_of_ble_eq_true rfl, Nat.le_of_ble_eq_true rfl⟩) (As := [.ref w]) (rest := []) (ci := 1) (q0 := 0) rfl rfl rfl hl.1 rfl (Nat.le_of_ble_eq_true rfl) dX8_set_51 ⟨Nat.le_of_ble_eq_true rfl, Nat.le_of_ble_eq_true rfl⟩ (fun u_51 H locs hq hP hD hS => ?_)
        have hq_51 : HistR cI cW hv (pushH hist hn S) (pushN hn) u_51 := hq
        have hP : va_P D vwCl (oX8 xo w hi sn tx f mm re ro (bI mk) (bI rk) :: oX7 w wb ws wc wr wl ww wf :: aI cI wb 10 wbl :: aI cI ws 3 wse :: oX1 hi (nI (pushN hn)) hv :: (X ++ u_51)) H := pm_P hP 5 [4, 1, 2, 3, 0] rfl
        have hD : va_D A (oX8 xo w hi sn tx f mm re ro (bI mk) (bI rk) :: oX7 w wb ws wc wr wl ww wf :: aI cI wb 10 wbl :: aI cI ws 3 wse :: oX1 hi (nI (pushN hn)) hv :: (X ++ u_51)) := pm_D hD 5 [4, 1, 2, 3, 0] rfl rfl rfl
        refine lv_aload_n hx hb dX8_set_54 rfl (lv_at hl 0 rfl) ?_
        refine va_get (D := D) (ci := 8) (v := .ref w) (C := RX8) (T := TX8) (N := 10) hx hb hts hiX8 hown hK hP 0 rfl rfl 0 (by decide) (hts (.fieldLink RX8 12 "LedgeLeaps" "world" "LLedgeLeaps$World;") (List.mem_of_getElem? (i := 7) rfl)) (fun _ h9 => h9) rfl dX8_set_55 ?_
        refine va_get (D := D) (ci := 7) (v := .ref ws) (C := RX7) (T := TX7) (N := 7) hx hb hts hiX7 hown hK hP 1 rfl rfl 1 (by decide) (hts (.fieldLink RX8 103 "LedgeLeaps$World" "settings" "[I") (List.mem_of_getElem? (i := 8) rfl)) (fun _ h9 => h9) rfl dX8_set_58 ?_
        refine lv_iload_n hx hb dX8_set_61 rfl (lv_at hl 1 rfl) ?_
        refine top_i (y := (nI ks)) e1 ?_
        refine cS_i CF hK hN hA hS (cut_of 5 [3, 0, 1, 2, 4] hP hD rfl rfl rfl) (m_at l D cI cZ cW cJ A (oX8 xo w hi sn tx f mm re ro (bI mk) (bI rk) :: oX7 w wb ws wc wr wl ww wf :: aI cI wb 10 wbl :: oX1 hi (nI (pushN hn)) hv :: (X ++ u_51)) ws 3 wse (nI ks) (by decide)) (va_cwS 2 hts gX8_set_X8_at rfl rfl rfl (by decide +kernel) ⟨Nat.le_of_ble_eq_true rfl, Nat.le_of_ble_eq_true rfl⟩) (As := [.ref ws, .int (nI ks)]) (rest := []) rfl hl.1 rfl (Nat.le_of_ble_eq_true rfl) dX8_set_62 ⟨Nat.le_of_ble_eq_true rfl, Nat.le_of_ble_eq_true rfl⟩ (fun r_62 _ H locs hq hP hD hS => ?_)
        have hq : r_62 = atX 3 wse (nI ks) := hq
        subst hq
        have hP : va_P D vwCl (oX8 xo w hi sn tx f mm re ro (bI mk) (bI rk) :: oX7 w wb ws wc wr wl ww wf :: aI cI wb 10 wbl :: aI cI ws 3 wse :: oX1 hi (nI (pushN hn)) hv :: (X ++ u_51)) H := pm_P hP 5 [1, 2, 3, 0, 4] rfl
        have hD : va_D A (oX8 xo w hi sn tx f mm re ro (bI mk) (bI rk) :: oX7 w wb ws wc wr wl ww wf :: aI cI wb 10 wbl :: aI cI ws 3 wse :: oX1 hi (nI (pushN hn)) hv :: (X ++ u_51)) := pm_D hD 5 [1, 2, 3, 0, 4] rfl rfl rfl
        refine top_i (y := (wse ks)) (at_nI hks (by decide)) ?_
        refine lv_istore_n (lv' := [(3, .int (wse ks)), (0, .ref xo), (1, .int xk), (2, .int xv)]) hx hb dX8_set_65 rfl hl (by decide) rfl (fun ls hl => ?_)
        refine lv_aload_n hx hb dX8_set_66 rfl (lv_at hl 1 rfl) ?_
        refine va_get (D := D) (ci := 8) (v := .ref w) (C := RX8) (T := TX8) (N := 10) hx hb hts hiX8 hown hK hP 0 rfl rfl 0 (by decide) (hts (.fieldLink RX8 12 "LedgeLeaps" "world" "LLedgeLeaps$World;") (List.mem_of_getElem? (i := 7) rfl)) (fun _ h9 => h9) rfl dX8_set_67 ?_
        refine va_get (D := D) (ci := 7) (v := .ref ws) (C := RX7) (T := TX7) (N := 7) hx hb hts hiX7 hown hK hP 1 rfl rfl 1 (by decide) (hts (.fieldLink RX8 103 "LedgeLeaps$World" "settings" "[I") (List.mem_of_getElem? (i := 8) rfl)) (fun _ h9 => h9) rfl dX8_set_70 ?_
        refine lv_iload_n hx hb dX8_set_73 rfl (lv_at hl 2 rfl) ?_
        refine top_i (y := (nI ks)) e1 ?_
        refine lv_iload_n hx hb dX8_set_74 rfl (lv_at hl 3 rfl) ?_
        refine cS_v CF hK hN hA hS (cut_of 5 [3, 0, 1, 2, 4] hP hD rfl rfl rfl) (m_store l D cI cZ cW cJ A (oX8 xo w hi sn tx f mm re ro (bI mk) (bI rk) :: oX7 w wb ws wc wr wl ww wf :: aI cI wb 10 wbl :: oX1 hi (nI (pushN hn)) hv :: (X ++ u_51)) ws 3 wse (nI ks) xv (by decide)) (va_cwS 3 hts gX8_set_X8_store rfl rfl rfl (by decide +kernel) ⟨Nat.le_of_ble_eq_true rfl, Nat.le_of_ble_eq_true rfl⟩) (As := [.ref ws, .int (nI ks), .int xv]) (rest := []) rfl hl.1 rfl (Nat.le_of_ble_eq_true rfl) dX8_set_75 ⟨Nat.le_of_ble_eq_true rfl, Nat.le_of_ble_eq_true rfl⟩ (fun u_75 H locs hq hP hD hS => ?_)
        have hq_75 : u_75 = stX 3 wse (nI ks) xv := hq
        have hP : va_P D vwCl (oX8 xo w hi sn tx f mm re ro (bI mk) (bI rk) :: oX7 w wb ws wc wr wl ww wf :: aI cI wb 10 wbl :: aI cI ws 3 u_75 :: oX1 hi (nI (pushN hn)) hv :: (X ++ u_51)) H := pm_P hP 5 [1, 2, 3, 0, 4] rfl
        have hD : va_D A (oX8 xo w hi sn tx f mm re ro (bI mk) (bI rk) :: oX7 w wb ws wc wr wl ww wf :: aI cI wb 10 wbl :: aI cI ws 3 u_75 :: oX1 hi (nI (pushN hn)) hv :: (X ++ u_51)) := pm_D hD 5 [1, 2, 3, 0, 4] rfl rfl rfl
        rw [hq_75, st_nI hks (by decide)] at hP hD
        have hP : va_P D vwCl (oX8 xo w hi sn tx f mm re ro (bI mk) (bI rk) :: oX7 w wb ws wc wr wl ww wf :: aI cI wb 10 wbl :: aI cI ws 3 (upd wse ks xv) :: oX1 hi (nI (pushN hn)) hv :: (X ++ u_51)) H := hP
        have hD : va_D A (oX8 xo w hi sn tx f mm re ro (bI mk) (bI rk) :: oX7 w wb ws wc wr wl ww wf :: aI cI wb 10 wbl :: aI cI ws 3 (upd wse ks xv) :: oX1 hi (nI (pushN hn)) hv :: (X ++ u_51)) := hD
        refine lv_aload_n hx hb dX8_set_78 rfl (lv_at hl 1 rfl) ?_
        refine cV_v CF hK hN hA hS (cut_of 5 [0, 1, 2, 3, 4] hP hD rfl rfl rfl) (m_forgetLevel l D cI cZ cW cJ A (oX7 w wb ws wc wr wl ww wf :: aI cI wb 10 wbl :: aI cI ws 3 (upd wse ks xv) :: oX1 hi (nI (pushN hn)) hv :: (X ++ u_51)) xo w hi sn tx f mm re ro mk rk) (cwV 0 hts gX8_set_X8_forgetLevel rfl rfl rfl (by decide +kernel) ⟨Nat.le_of_ble_eq_true rfl, Nat.le_of_ble_eq_true rfl⟩) (As := []) (rest := []) (ci := 8) (q0 := 0) rfl rfl rfl hl.1 rfl (Nat.le_of_ble_eq_true rfl) dX8_set_79 ⟨Nat.le_of_ble_eq_true rfl, Nat.le_of_ble_eq_true rfl⟩ (fun _ H locs hq hP hD hS => ?_)
        have hP : va_P D vwCl (oX8 xo w hi sn tx f mm re ro (bI false) (bI false) :: oX7 w wb ws wc wr wl ww wf :: aI cI wb 10 wbl :: aI cI ws 3 (upd wse ks xv) :: oX1 hi (nI (pushN hn)) hv :: (X ++ u_51)) H := pm_P hP 5 [0, 1, 2, 3, 4] rfl
        have hD : va_D A (oX8 xo w hi sn tx f mm re ro (bI false) (bI false) :: oX7 w wb ws wc wr wl ww wf :: aI cI wb 10 wbl :: aI cI ws 3 (upd wse ks xv) :: oX1 hi (nI (pushN hn)) hv :: (X ++ u_51)) := pm_D hD 5 [0, 1, 2, 3, 4] rfl rfl rfl
        refine lv_iload_n hx hb dX8_set_82 rfl (lv_at hl 0 rfl) ?_
        exact W.iret (v := (wse ks)) hx hb hr (fun t9 ht9 hW9 => ⟨⟨(wse ks), (u_51, upd wse ks xv), rfl, ⟨⟨ks, hks, e1, c_19, c_30, set_S hS0 hks, hS0.set hks xv⟩, hq_51⟩, by rw [ht9]; exact hP, hD⟩, hS.F ht9⟩) hS.2.2 dX8_set_83
      · exact (hpe "java/lang/IllegalArgumentException" (Or.inr ⟨rfl, ks, hks, e1, Or.inr (Int32.not_le.mp c_30)⟩)).elim
  · exact (hpe "java/lang/IndexOutOfBoundsException" (Or.inl ⟨rfl, bf_c c_4⟩)).elim
