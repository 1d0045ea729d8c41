theorem isCell_nI {x y : Int32} (h : isCellX x y = true) : ∃ c r : Nat, c < 20 ∧ r < 10 ∧ x = nI c ∧ y = nI r := by
  unfold isCellX at h
  split at h
  · cases h
  · rename_i h1
    split at h
    · cases h
    · rename_i h2
      split at h
      · cases h
      · rename_i h3
        split at h
        · cases h
        · rename_i h4
          obtain ⟨c, hc, rfl⟩ := nI_of h1
          obtain ⟨r, hr, rfl⟩ := nI_of h3
          exact ⟨c, r, lt_of_nge (a := 20) (by decide) hc h2, lt_of_nge (a := 10) (by decide) hr h4, rfl, rfl⟩
theorem isRun_nI {x : Int32} (h : isRunX x = true) : ∃ k : Nat, k ≤ 3 ∧ x = nI k := by
  unfold isRunX at h
  split at h
  · cases h
  · rename_i h1
    split at h
    · cases h
    · rename_i h2
      obtain ⟨c, hc, rfl⟩ := nI_of h1
      exact ⟨c, Nat.le_of_not_lt fun q => h2 ((nI_ltI (a := 3) (by decide) hc).mpr q), rfl⟩
theorem isSlot_nI {x : Int32} (h : isSlotX x = true) : ∃ k : Nat, k < 2 ∧ x = nI k := by
  unfold isSlotX at h
  split at h
  · cases h
  · rename_i h1
    split at h
    · cases h
    · rename_i h2
      obtain ⟨c, hc, rfl⟩ := nI_of h1
      exact ⟨c, lt_of_nge (a := 2) (by decide) hc h2, rfl⟩
theorem isSet_nI {x : Int32} (h : isSetX x = true) : ∃ k : Nat, k < 3 ∧ x = nI k := by
  unfold isSetX at h
  split at h
  · cases h
  · rename_i h1
    split at h
    · cases h
    · rename_i h2
      obtain ⟨c, hc, rfl⟩ := nI_of h1
      exact ⟨c, lt_of_nge (a := 3) (by decide) hc h2, rfl⟩
theorem rng_nI {x : Int32} {n : Nat} (hn : n < 2 ^ 31) (h1 : ¬ x < 0) (h2 : x < nI n) : ∃ k : Nat, k < n ∧ x = nI k := by
  obtain ⟨c, hc, rfl⟩ := nI_of h1
  exact ⟨c, (nI_ltI hc hn).mp h2, rfl⟩
theorem rng_nI2 {x : Int32} {n : Nat} (hn : n < 2 ^ 31) (h1 : ¬ x < 0) (h2 : ¬ nI n < x) : ∃ k : Nat, k ≤ n ∧ x = nI k := by
  obtain ⟨c, hc, rfl⟩ := nI_of h1
  exact ⟨c, Nat.le_of_not_lt fun q => h2 ((nI_ltI hn hc).mpr q), rfl⟩
set_option maxHeartbeats 4000000 in
set_option maxRecDepth 100000 in
theorem m_build (l : Launch) (D : va_G) (cI cZ cW cJ : ClassId) (A : Nat → Prop) (X : va_W) (xo hi sn tx f mm re ro : Nat) (mk rk : Bool) (w wb ws : Nat) (wc wr wl ww wf : Int32) (wbl wse : Nat → Int32) (hv : Nat) (HR : va_W) (hist : Nat → KS) (hn : Nat) (S : KS) (xc xr : Int32) (hS0 : AbsX S wbl wse wc wr wl ww wf) (hWf : Wf S) (hR : HistR cI cW hv hist hn HR) (hpe : ∀ E : String, ¬ (E = "java/lang/IndexOutOfBoundsException" ∧ isCellX xc xr = false)) : Met l yX8_build wsX8_build ({ frames := 4, cells := 0, slots := 0, locals := 87 }) (va_Pc [.ref xo, .int xc, .int xr] (wd D (tyL cI cZ cW cJ) A (oX8 xo w hi sn tx f mm re ro (bI mk) (bI rk) :: oX7 w wb ws wc wr wl ww wf :: aI cI wb 10 wbl :: aI cI ws 3 wse :: oX1 hi (nI hn) hv :: (X ++ HR)))) (va_Qi (fun (r : Int32) (u : va_W × (Nat → Int32) × Int32 × Int32 × Bool × Bool) => isCellX xc xr = true ∧ r = (buildK S xc.toNatClampNeg xr.toNatClampNeg).2 ∧ AbsX (buildK S xc.toNatClampNeg xr.toNatClampNeg).1 u.2.1 wse wc u.2.2.1 wl ww u.2.2.2.1 ∧ ((u.2.2.2.2.1 = mk ∧ u.2.2.2.2.2 = rk ∧ u.2.1 = wbl) ∨ (u.2.2.2.2.1 = false ∧ u.2.2.2.2.2 = false)) ∧ HistR cI cW hv (pushH hist hn S) (pushN hn) u.1) (fun (u : va_W × (Nat → Int32) × Int32 × Int32 × Bool × Bool) t => wq D A (oX8 xo w hi sn tx f mm re ro (bI u.2.2.2.2.1) (bI u.2.2.2.2.2) :: oX7 w wb ws wc u.2.2.1 wl ww u.2.2.2.1 :: aI cI wb 10 u.2.1 :: aI cI ws 3 wse :: oX1 hi (nI (pushN hn)) hv :: (X ++ u.1)) t) A) 0 0 A := by
  refine Met.ofW (cc := cX8_build) (maxL := 3) (ret := (some .int)) (by decide) rfl ?_
  intro p e s m args below meth c s₁ B hml hv
  obtain ⟨rfl, hsz9, hP, hK, hD, hN⟩ := hv
  have hx := B.exec
  have hb := B.bytes
  have hr := B.returns
  have hts := atoms_spec (ws := wsX8_build) B.pre
  have hown : s.vm.findClass RX8 = some m.cls := findClass_of_methodNamed B.named
  have hlocks := B.notSynchronized
  have CF : CallFix p m c cX8_build 3 s _ wsX8_build RX8 := ⟨hx, hb, hml, hown, hts⟩
  have hA : ∀ q : Nat, s.heap.size ≤ q → A q := hsz9
  have hS : va_S A s.heap s.heap [] := va_S.rf
  have hiX8 : ∀ w ∈ u_ws RX8 TX8 10, w ∈ wsX8_build := fun _ h => List.mem_cons_of_mem _ (List.mem_append_left _ (List.mem_append_left _ (List.mem_append_left _ (List.mem_append_right _ (h)))))
  have hl := lv_entry ([.ref xo, .int xc, .int xr]) (n := 3) (Nat.le_of_ble_eq_true rfl)
  rw [lg_entry_eq]
  generalize (lg_sl ([.ref xo, .int xc, .int xr]) ++ List.replicate (3 - (lg_sl ([.ref xo, .int xc, .int xr])).length) Slot.unset).toArray = ls at hl ⊢
  have hl : lv_has ls 3 [(0, .ref xo), (1, .int xc), (2, .int xr)] := hl
  show W p l e ({ frames := 4, cells := 0, slots := 0, locals := 87 } : Room) s m (([.ref xo, .int xc, .int xr] : List Value).toArray) below meth c s.heap [] 0 0 (MQ below (va_Qi (fun (r : Int32) (u : va_W × (Nat → Int32) × Int32 × Int32 × Bool × Bool) => isCellX xc xr = true ∧ r = (buildK S xc.toNatClampNeg xr.toNatClampNeg).2 ∧ AbsX (buildK S xc.toNatClampNeg xr.toNatClampNeg).1 u.2.1 wse wc u.2.2.1 wl ww u.2.2.2.1 ∧ ((u.2.2.2.2.1 = mk ∧ u.2.2.2.2.2 = rk ∧ u.2.1 = wbl) ∨ (u.2.2.2.2.1 = false ∧ u.2.2.2.2.2 = false)) ∧ HistR cI cW hv (pushH hist hn S) (pushN hn) u.1) (fun (u : va_W × (Nat → Int32) × Int32 × Int32 × Bool × Bool) t => wq D A (oX8 xo w hi sn tx f mm re ro (bI u.2.2.2.2.1) (bI u.2.2.2.2.2) :: oX7 w wb ws wc u.2.2.1 wl ww u.2.2.2.1 :: aI cI wb 10 u.2.1 :: aI cI ws 3 wse :: oX1 hi (nI (pushN hn)) hv :: (X ++ u.1)) t) A) (([.ref xo, .int xc, .int xr] : List Value).toArray) s 0 0 A) (F0 m 0 ls [])
  refine lv_iload_n hx hb dX8_build_0 rfl (lv_at hl 1 rfl) ?_
  refine lv_iload_n hx hb dX8_build_1 rfl (lv_at hl 2 rfl) ?_
  refine cS_i CF hK hN hA hS (cut_of 5 [0, 1, 2, 3, 4] hP hD rfl rfl rfl) (m_isCell l D cI cZ cW cJ A (oX8 xo w hi sn tx f mm re ro (bI mk) (bI rk) :: oX7 w wb ws wc wr wl ww wf :: aI cI wb 10 wbl :: aI cI ws 3 wse :: oX1 hi (nI hn) hv :: (X ++ HR)) xc xr) (va_cwS 2 hts gX8_build_X8_isCell rfl rfl rfl (by decide +kernel) ⟨Nat.le_of_ble_eq_true rfl, Nat.le_of_ble_eq_true rfl⟩) (As := [.int xc, .int xr]) (rest := []) rfl hl.1 rfl (Nat.le_of_ble_eq_true rfl) dX8_build_2 ⟨Nat.le_of_ble_eq_true rfl, Nat.le_of_ble_eq_true rfl⟩ (fun r_2 _ H locs hq hP hD hS => ?_)
  have hq : r_2 = bI (isCellX xc xr) := hq
  subst hq
  have hP : va_P D vwCl (oX8 xo w hi sn tx f mm re ro (bI mk) (bI rk) :: oX7 w wb ws wc wr wl ww wf :: aI cI wb 10 wbl :: aI cI ws 3 wse :: oX1 hi (nI hn) hv :: (X ++ HR)) H := pm_P hP 5 [0, 1, 2, 3, 4] rfl
  have hD : va_D A (oX8 xo w hi sn tx f mm re ro (bI mk) (bI rk) :: oX7 w wb ws wc wr wl ww wf :: aI cI wb 10 wbl :: aI cI ws 3 wse :: oX1 hi (nI hn) hv :: (X ++ HR)) := pm_D hD 5 [0, 1, 2, 3, 4] rfl rfl rfl
  refine lv_if_ne (tgt := 18) hx hb dX8_build_5 (by decide) (fun c_5 => ?_) (fun c_5 => ?_)
  · obtain ⟨ac, ar, hac, har, e1, e2⟩ := isCell_nI (bt_c c_5)
    have hK9 : buildK S xc.toNatClampNeg xr.toNatClampNeg = buildK S ac ar := by rw [e1, e2, nI_clamp (by omega), nI_clamp (by omega)]
    refine lv_aload_n hx hb dX8_build_18 rfl (lv_at hl 0 rfl) ?_
    refine va_get (D := D) (ci := 8) (v := .ref hi) (C := RX8) (T := TX8) (N := 10) hx hb hts hiX8 hown hK hP 0 rfl rfl 1 (by decide) (hts (.fieldLink RX8 19 "LedgeLeaps" "history" "LLedgeLeaps$History;") (List.mem_of_getElem? (i := 3) rfl)) (fun _ h9 => h9) rfl dX8_build_19 ?_
    refine lv_aload_n hx hb dX8_build_22 rfl (lv_at hl 0 rfl) ?_
    refine va_get (D := D) (ci := 8) (v := .ref w) (C := RX8) (T := TX8) (N := 10) hx hb hts hiX8 hown hK hP 0 rfl rfl 0 (by decide) (hts (.fieldLink RX8 12 "LedgeLeaps" "world" "LLedgeLeaps$World;") (List.mem_of_getElem? (i := 4) rfl)) (fun _ h9 => h9) rfl dX8_build_23 ?_
    refine cV_v CF hK hN hA hS (cut_of 5 [4, 1, 2, 3, 0] hP hD rfl rfl rfl) (m_save l D cI cZ cW cJ A (oX8 xo w hi sn tx f mm re ro (bI mk) (bI rk) :: X) hi hv w wb ws wc wr wl ww wf wbl wse HR hist S hn hR hS0) (cwV 1 hts gX8_build_X1_save rfl rfl rfl (by decide +kernel) ⟨Nat.le_of_ble_eq_true rfl, Nat.le_of_ble_eq_true rfl⟩) (As := [.ref w]) (rest := []) (ci := 1) (q0 := 0) rfl rfl rfl hl.1 rfl (Nat.le_of_ble_eq_true rfl) dX8_build_26 ⟨Nat.le_of_ble_eq_true rfl, Nat.le_of_ble_eq_true rfl⟩ (fun u_26 H locs hq hP hD hS => ?_)
    have hq_26 : HistR cI cW hv (pushH hist hn S) (pushN hn) u_26 := hq
    have hP : va_P D vwCl (oX8 xo w hi sn tx f mm re ro (bI mk) (bI rk) :: oX7 w wb ws wc wr wl ww wf :: aI cI wb 10 wbl :: aI cI ws 3 wse :: oX1 hi (nI (pushN hn)) hv :: (X ++ u_26)) H := pm_P hP 5 [4, 1, 2, 3, 0] rfl
    have hD : va_D A (oX8 xo w hi sn tx f mm re ro (bI mk) (bI rk) :: oX7 w wb ws wc wr wl ww wf :: aI cI wb 10 wbl :: aI cI ws 3 wse :: oX1 hi (nI (pushN hn)) hv :: (X ++ u_26)) := pm_D hD 5 [4, 1, 2, 3, 0] rfl rfl rfl
    refine lv_aload_n hx hb dX8_build_29 rfl (lv_at hl 0 rfl) ?_
    refine lv_iload_n hx hb dX8_build_30 rfl (lv_at hl 1 rfl) ?_
    refine top_i (y := (nI ac)) e1 ?_
    refine lv_iload_n hx hb dX8_build_31 rfl (lv_at hl 2 rfl) ?_
    refine top_i (y := (nI ar)) e2 ?_
    refine cV_i CF hK hN hA hS (cut_of 5 [0, 1, 2, 3, 4] hP hD rfl rfl rfl) (m_buildOrBreak l D cI cZ cW cJ A (oX1 hi (nI (pushN hn)) hv :: (X ++ u_26)) xo hi sn tx f mm re ro mk rk w wb ws wc wr wl ww wf wbl wse S ac ar hac har hS0 hWf) (cwV 2 hts gX8_build_X8_buildOrBreak rfl rfl rfl (by decide +kernel) ⟨Nat.le_of_ble_eq_true rfl, Nat.le_of_ble_eq_true rfl⟩) (As := [.int (nI ac), .int (nI ar)]) (rest := []) (ci := 8) (q0 := 0) rfl rfl rfl hl.1 rfl (Nat.le_of_ble_eq_true rfl) dX8_build_32 ⟨Nat.le_of_ble_eq_true rfl, Nat.le_of_ble_eq_true rfl⟩ (fun r_32 u_32 H locs hq hP hD hS => ?_)
    have hq_32 : r_32 = (buildK S ac ar).2 ∧ AbsX (buildK S ac ar).1 u_32.1 wse wc u_32.2.1 wl ww u_32.2.2.1 ∧ ((u_32.2.2.2.1 = mk ∧ u_32.2.2.2.2 = rk ∧ u_32.1 = wbl) ∨ (u_32.2.2.2.1 = false ∧ u_32.2.2.2.2 = false)) := hq
    have hr_32 : r_32 = (buildK S ac ar).2 := hq_32.1
    subst hr_32
    have hP : va_P D vwCl (oX8 xo w hi sn tx f mm re ro (bI u_32.2.2.2.1) (bI u_32.2.2.2.2) :: oX7 w wb ws wc u_32.2.1 wl ww u_32.2.2.1 :: aI cI wb 10 u_32.1 :: aI cI ws 3 wse :: oX1 hi (nI (pushN hn)) hv :: (X ++ u_26)) H := pm_P hP 5 [0, 1, 2, 3, 4] rfl
    have hD : va_D A (oX8 xo w hi sn tx f mm re ro (bI u_32.2.2.2.1) (bI u_32.2.2.2.2) :: oX7 w wb ws wc u_32.2.1 wl ww u_32.2.2.1 :: aI cI wb 10 u_32.1 :: aI cI ws 3 wse :: oX1 hi (nI (pushN hn)) hv :: (X ++ u_26)) := pm_D hD 5 [0, 1, 2, 3, 4] rfl rfl rfl
    exact W.iret (v := ((buildK S ac ar).2)) hx hb hr (fun t9 ht9 hW9 => ⟨⟨((buildK S ac ar).2), (u_26, u_32.1, u_32.2.1, u_32.2.2.1, u_32.2.2.2.1, u_32.2.2.2.2), rfl, by rw [hK9]; exact ⟨bt_c c_5, rfl, hq_32.2.1, hq_32.2.2, hq_26⟩, by rw [ht9]; exact hP, hD⟩, hS.F ht9⟩) hS.2.2 dX8_build_35
  · exact (hpe "java/lang/IndexOutOfBoundsException" (⟨rfl, bf_c c_5⟩)).elim
set_option maxHeartbeats 4000000 in
set_option maxRecDepth 100000 in
theorem m_walk (l : Launch) (D : va_G) (cI cZ cW cJ : ClassId) (A : Nat → Prop) (X : va_W) (xo hi sn tx f mm re ro : Nat) (mk rk : Bool) (w wb ws : Nat) (wc wr wl ww wf : Int32) (wbl wse : Nat → Int32) (hv : Nat) (HR : va_W) (hist : Nat → KS) (hn : Nat) (S : KS) (xd : Int32) (hS0 : AbsX S wbl wse wc wr wl ww wf) (hWf : Wf S) (hR : HistR cI cW hv hist hn HR) (hpe : ∀ E : String, ¬ (E = "java/lang/IllegalArgumentException" ∧ isSideX xd = false)) : Met l yX8_walk wsX8_walk ({ frames := 3, cells := 0, slots := 0, locals := 83 }) (va_Pc [.ref xo, .int xd] (wd D (tyL cI cZ cW cJ) A (oX8 xo w hi sn tx f mm re ro (bI mk) (bI rk) :: oX7 w wb ws wc wr wl ww wf :: aI cI wb 10 wbl :: aI cI ws 3 wse :: oX1 hi (nI hn) hv :: (X ++ HR)))) (va_Qi (fun (r : Int32) (u : va_W × Int32 × Int32) => isSideX xd = true ∧ r = (walkK S xd).2 ∧ AbsX (walkK S xd).1 wbl wse u.2.1 wr wl ww u.2.2 ∧ HistR cI cW hv (pushH hist hn S) (pushN hn) u.1) (fun (u : va_W × Int32 × Int32) t => wq D A (oX8 xo w hi sn tx f mm re ro (bI mk) (bI rk) :: oX7 w wb ws u.2.1 wr wl ww u.2.2 :: aI cI wb 10 wbl :: aI cI ws 3 wse :: oX1 hi (nI (pushN hn)) hv :: (X ++ u.1)) t) A) 0 0 A := by
  refine Met.ofW (cc := cX8_walk) (maxL := 2) (ret := (some .int)) (by decide) rfl ?_
  intro p e s m args below meth c s₁ B hml hv
  obtain ⟨rfl, hsz9, hP, hK, hD, hN⟩ := hv
  have hx := B.exec
  have hb := B.bytes
  have hr := B.returns
  have hts := atoms_spec (ws := wsX8_walk) B.pre
  have hown : s.vm.findClass RX8 = some m.cls := findClass_of_methodNamed B.named
  have hlocks := B.notSynchronized
  have CF : CallFix p m c cX8_walk 2 s _ wsX8_walk RX8 := ⟨hx, hb, hml, hown, hts⟩
  have hA : ∀ q : Nat, s.heap.size ≤ q → A q := hsz9
  have hS : va_S A s.heap s.heap [] := va_S.rf
  have hiX8 : ∀ w ∈ u_ws RX8 TX8 10, w ∈ wsX8_walk := fun _ h => List.mem_cons_of_mem _ (List.mem_append_left _ (List.mem_append_left _ (List.mem_append_left _ (List.mem_append_right _ (h)))))
  have hl := lv_entry ([.ref xo, .int xd]) (n := 2) (Nat.le_of_ble_eq_true rfl)
  rw [lg_entry_eq]
  generalize (lg_sl ([.ref xo, .int xd]) ++ List.replicate (2 - (lg_sl ([.ref xo, .int xd])).length) Slot.unset).toArray = ls at hl ⊢
  have hl : lv_has ls 2 [(0, .ref xo), (1, .int xd)] := hl
  show W p l e ({ frames := 3, cells := 0, slots := 0, locals := 83 } : Room) s m (([.ref xo, .int xd] : List Value).toArray) below meth c s.heap [] 0 0 (MQ below (va_Qi (fun (r : Int32) (u : va_W × Int32 × Int32) => isSideX xd = true ∧ r = (walkK S xd).2 ∧ AbsX (walkK S xd).1 wbl wse u.2.1 wr wl ww u.2.2 ∧ HistR cI cW hv (pushH hist hn S) (pushN hn) u.1) (fun (u : va_W × Int32 × Int32) t => wq D A (oX8 xo w hi sn tx f mm re ro (bI mk) (bI rk) :: oX7 w wb ws u.2.1 wr wl ww u.2.2 :: aI cI wb 10 wbl :: aI cI ws 3 wse :: oX1 hi (nI (pushN hn)) hv :: (X ++ u.1)) t) A) (([.ref xo, .int xd] : List Value).toArray) s 0 0 A) (F0 m 0 ls [])
  refine lv_iload_n hx hb dX8_walk_0 rfl (lv_at hl 1 rfl) ?_
  refine cS_i CF hK hN hA hS (cut_of 5 [0, 1, 2, 3, 4] hP hD rfl rfl rfl) (m_isSide l D cI cZ cW cJ A (oX8 xo w hi sn tx f mm re ro (bI mk) (bI rk) :: oX7 w wb ws wc wr wl ww wf :: aI cI wb 10 wbl :: aI cI ws 3 wse :: oX1 hi (nI hn) hv :: (X ++ HR)) xd) (va_cwS 1 hts gX8_walk_X8_isSide rfl rfl rfl (by decide +kernel) ⟨Nat.le_of_ble_eq_true rfl, Nat.le_of_ble_eq_true rfl⟩) (As := [.int xd]) (rest := []) rfl hl.1 rfl (Nat.le_of_ble_eq_true rfl) dX8_walk_1 ⟨Nat.le_of_ble_eq_true rfl, Nat.le_of_ble_eq_true rfl⟩ (fun r_1 _ H locs hq hP hD hS => ?_)
  have hq : r_1 = bI (isSideX xd) := hq
  subst hq
  have hP : va_P D vwCl (oX8 xo w hi sn tx f mm re ro (bI mk) (bI rk) :: oX7 w wb ws wc wr wl ww wf :: aI cI wb 10 wbl :: aI cI ws 3 wse :: oX1 hi (nI hn) hv :: (X ++ HR)) H := pm_P hP 5 [0, 1, 2, 3, 4] rfl
  have hD : va_D A (oX8 xo w hi sn tx f mm re ro (bI mk) (bI rk) :: oX7 w wb ws wc wr wl ww wf :: aI cI wb 10 wbl :: aI cI ws 3 wse :: oX1 hi (nI hn) hv :: (X ++ HR)) := pm_D hD 5 [0, 1, 2, 3, 4] rfl rfl rfl
  refine lv_if_ne (tgt := 17) hx hb dX8_walk_4 (by decide) (fun c_4 => ?_) (fun c_4 => ?_)
  · refine lv_aload_n hx hb dX8_walk_17 rfl (lv_at hl 0 rfl) ?_
    refine va_get (D := D) (ci := 8) (v := .ref hi) (C := RX8) (T := TX8) (N := 10) hx hb hts hiX8 hown hK hP 0 rfl rfl 1 (by decide) (hts (.fieldLink RX8 19 "LedgeLeaps" "history" "LLedgeLeaps$History;") (List.mem_of_getElem? (i := 3) rfl)) (fun _ h9 => h9) rfl dX8_walk_18 ?_
    refine lv_aload_n hx hb dX8_walk_21 rfl (lv_at hl 0 rfl) ?_
    refine va_get (D := D) (ci := 8) (v := .ref w) (C := RX8) (T := TX8) (N := 10) hx hb hts hiX8 hown hK hP 0 rfl rfl 0 (by decide) (hts (.fieldLink RX8 12 "LedgeLeaps" "world" "LLedgeLeaps$World;") (List.mem_of_getElem? (i := 4) rfl)) (fun _ h9 => h9) rfl dX8_walk_22 ?_
    refine cV_v CF hK hN hA hS (cut_of 5 [4, 1, 2, 3, 0] hP hD rfl rfl rfl) (m_save l D cI cZ cW cJ A (oX8 xo w hi sn tx f mm re ro (bI mk) (bI rk) :: X) hi hv w wb ws wc wr wl ww wf wbl wse HR hist S hn hR hS0) (cwV 1 hts gX8_walk_X1_save rfl rfl rfl (by decide +kernel) ⟨Nat.le_of_ble_eq_true rfl, Nat.le_of_ble_eq_true rfl⟩) (As := [.ref w]) (rest := []) (ci := 1) (q0 := 0) rfl rfl rfl hl.1 rfl (Nat.le_of_ble_eq_true rfl) dX8_walk_25 ⟨Nat.le_of_ble_eq_true rfl, Nat.le_of_ble_eq_true rfl⟩ (fun u_25 H locs hq hP hD hS => ?_)
    have hq_25 : HistR cI cW hv (pushH hist hn S) (pushN hn) u_25 := hq
    have hP : va_P D vwCl (oX8 xo w hi sn tx f mm re ro (bI mk) (bI rk) :: oX7 w wb ws wc wr wl ww wf :: aI cI wb 10 wbl :: aI cI ws 3 wse :: oX1 hi (nI (pushN hn)) hv :: (X ++ u_25)) H := pm_P hP 5 [4, 1, 2, 3, 0] rfl
    have hD : va_D A (oX8 xo w hi sn tx f mm re ro (bI mk) (bI rk) :: oX7 w wb ws wc wr wl ww wf :: aI cI wb 10 wbl :: aI cI ws 3 wse :: oX1 hi (nI (pushN hn)) hv :: (X ++ u_25)) := pm_D hD 5 [4, 1, 2, 3, 0] rfl rfl rfl
    refine lv_aload_n hx hb dX8_walk_28 rfl (lv_at hl 0 rfl) ?_
    refine lv_iload_n hx hb dX8_walk_29 rfl (lv_at hl 1 rfl) ?_
    refine cV_i CF hK hN hA hS (cut_of 5 [0, 1, 2, 3, 4] hP hD rfl rfl rfl) (m_runnerWalks l D cI cZ cW cJ A (oX1 hi (nI (pushN hn)) hv :: (X ++ u_25)) xo hi sn tx f mm re ro mk rk w wb ws wc wr wl ww wf wbl wse S xd hS0) (cwV 1 hts gX8_walk_X8_runnerWalks rfl rfl rfl (by decide +kernel) ⟨Nat.le_of_ble_eq_true rfl, Nat.le_of_ble_eq_true rfl⟩) (As := [.int xd]) (rest := []) (ci := 8) (q0 := 0) rfl rfl rfl hl.1 rfl (Nat.le_of_ble_eq_true rfl) dX8_walk_30 ⟨Nat.le_of_ble_eq_true rfl, Nat.le_of_ble_eq_true rfl⟩ (fun r_30 u_30 H locs hq hP hD hS => ?_)
    have hq_30 : r_30 = (walkK S xd).2 ∧ AbsX (walkK S xd).1 wbl wse u_30.1 wr wl ww u_30.2 := hq
    have hr_30 : r_30 = (walkK S xd).2 := hq_30.1
    subst hr_30
    have hP : va_P D vwCl (oX8 xo w hi sn tx f mm re ro (bI mk) (bI rk) :: oX7 w wb ws u_30.1 wr wl ww u_30.2 :: aI cI wb 10 wbl :: aI cI ws 3 wse :: oX1 hi (nI (pushN hn)) hv :: (X ++ u_25)) H := pm_P hP 5 [0, 1, 2, 3, 4] rfl
    have hD : va_D A (oX8 xo w hi sn tx f mm re ro (bI mk) (bI rk) :: oX7 w wb ws u_30.1 wr wl ww u_30.2 :: aI cI wb 10 wbl :: aI cI ws 3 wse :: oX1 hi (nI (pushN hn)) hv :: (X ++ u_25)) := pm_D hD 5 [0, 1, 2, 3, 4] rfl rfl rfl
    exact W.iret (v := ((walkK S xd).2)) hx hb hr (fun t9 ht9 hW9 => ⟨⟨((walkK S xd).2), (u_25, u_30.1, u_30.2), rfl, ⟨bt_c c_4, rfl, hq_30.2, hq_25⟩, by rw [ht9]; exact hP, hD⟩, hS.F ht9⟩) hS.2.2 dX8_walk_33
  · exact (hpe "java/lang/IllegalArgumentException" (⟨rfl, bf_c c_4⟩)).elim
set_option maxHeartbeats 4000000 in
set_option maxRecDepth 100000 in
theorem m_leap (l : Launch) (D : va_G) (cI cZ cW cJ : ClassId) (A : Nat → Prop) (X : va_W) (xo hi sn tx f mm re ro : Nat) (mk rk : Bool) (w wb ws : Nat) (wc wr wl ww wf : Int32) (wbl wse : Nat → Int32) (fc fr ft fo fm fs fi : Int32) (hv : Nat) (HR : va_W) (hist : Nat → KS) (hn : Nat) (S : KS) (xd xu : Int32) (hS0 : AbsX S wbl wse wc wr wl ww wf) (hWf : Wf S) (hR : HistR cI cW hv hist hn HR) (hpe : ∀ E : String, ¬ (E = "java/lang/IllegalArgumentException" ∧ (isSideX xd = false ∨ isRunX xu = false))) : Met l yX8_leap wsX8_leap ({ frames := 4, cells := 0, slots := 0, locals := 93 }) (va_Pc [.ref xo, .int xd, .int xu] (wd D (tyL cI cZ cW cJ) A (oX8 xo w hi sn tx f mm re ro (bI mk) (bI rk) :: oX7 w wb ws wc wr wl ww wf :: aI cI wb 10 wbl :: aI cI ws 3 wse :: oX0 f fc fr ft fo fm fs fi :: oX1 hi (nI hn) hv :: (X ++ HR)))) (va_Qi (fun (r : Int32) (u : va_W × Int32 × Int32 × Int32 × Int32 × Int32 × Int32 × Int32 × Int32 × Int32 × Int32 × Int32 × Int32) => isSideX xd = true ∧ isRunX xu = true ∧ r = (leapK S xd xu.toNatClampNeg).2 ∧ AbsX (leapK S xd xu.toNatClampNeg).1 wbl wse u.2.1 u.2.2.1 u.2.2.2.1 u.2.2.2.2.1 u.2.2.2.2.2.1 ∧ HistR cI cW hv (pushH hist hn S) (pushN hn) u.1) (fun (u : va_W × Int32 × Int32 × Int32 × Int32 × Int32 × Int32 × Int32 × Int32 × Int32 × Int32 × Int32 × Int32) t => wq D A (oX8 xo w hi sn tx f mm re ro (bI mk) (bI rk) :: oX7 w wb ws u.2.1 u.2.2.1 u.2.2.2.1 u.2.2.2.2.1 u.2.2.2.2.2.1 :: aI cI wb 10 wbl :: aI cI ws 3 wse :: oX0 f u.2.2.2.2.2.2.1 u.2.2.2.2.2.2.2.1 u.2.2.2.2.2.2.2.2.1 u.2.2.2.2.2.2.2.2.2.1 u.2.2.2.2.2.2.2.2.2.2.1 u.2.2.2.2.2.2.2.2.2.2.2.1 u.2.2.2.2.2.2.2.2.2.2.2.2 :: oX1 hi (nI (pushN hn)) hv :: (X ++ u.1)) t) A) 0 0 A := by
  refine Met.ofW (cc := cX8_leap) (maxL := 3) (ret := (some .int)) (by decide) rfl ?_
  intro p e s m args below meth c s₁ B hml hv
  obtain ⟨rfl, hsz9, hP, hK, hD, hN⟩ := hv
  have hx := B.exec
  have hb := B.bytes
  have hr := B.returns
  have hts := atoms_spec (ws := wsX8_leap) B.pre
  have hown : s.vm.findClass RX8 = some m.cls := findClass_of_methodNamed B.named
  have hlocks := B.notSynchronized
  have CF : CallFix p m c cX8_leap 3 s _ wsX8_leap RX8 := ⟨hx, hb, hml, hown, hts⟩
  have hA : ∀ q : Nat, s.heap.size ≤ q → A q := hsz9
  have hS : va_S A s.heap s.heap [] := va_S.rf
  have hiX8 : ∀ w ∈ u_ws RX8 TX8 10, w ∈ wsX8_leap := fun _ h => List.mem_cons_of_mem _ (List.mem_append_left _ (List.mem_append_left _ (List.mem_append_left _ (List.mem_append_left _ (List.mem_append_right _ (h))))))
  have hl := lv_entry ([.ref xo, .int xd, .int xu]) (n := 3) (Nat.le_of_ble_eq_true rfl)
  rw [lg_entry_eq]
  generalize (lg_sl ([.ref xo, .int xd, .int xu]) ++ List.replicate (3 - (lg_sl ([.ref xo, .int xd, .int xu])).length) Slot.unset).toArray = ls at hl ⊢
  have hl : lv_has ls 3 [(0, .ref xo), (1, .int xd), (2, .int xu)] := hl
  show W p l e ({ frames := 4, cells := 0, slots := 0, locals := 93 } : Room) s m (([.ref xo, .int xd, .int xu] : List Value).toArray) below meth c s.heap [] 0 0 (MQ below (va_Qi (fun (r : Int32) (u : va_W × Int32 × Int32 × Int32 × Int32 × Int32 × Int32 × Int32 × Int32 × Int32 × Int32 × Int32 × Int32) => isSideX xd = true ∧ isRunX xu = true ∧ r = (leapK S xd xu.toNatClampNeg).2 ∧ AbsX (leapK S xd xu.toNatClampNeg).1 wbl wse u.2.1 u.2.2.1 u.2.2.2.1 u.2.2.2.2.1 u.2.2.2.2.2.1 ∧ HistR cI cW hv (pushH hist hn S) (pushN hn) u.1) (fun (u : va_W × Int32 × Int32 × Int32 × Int32 × Int32 × Int32 × Int32 × Int32 × Int32 × Int32 × Int32 × Int32) t => wq D A (oX8 xo w hi sn tx f mm re ro (bI mk) (bI rk) :: oX7 w wb ws u.2.1 u.2.2.1 u.2.2.2.1 u.2.2.2.2.1 u.2.2.2.2.2.1 :: aI cI wb 10 wbl :: aI cI ws 3 wse :: oX0 f u.2.2.2.2.2.2.1 u.2.2.2.2.2.2.2.1 u.2.2.2.2.2.2.2.2.1 u.2.2.2.2.2.2.2.2.2.1 u.2.2.2.2.2.2.2.2.2.2.1 u.2.2.2.2.2.2.2.2.2.2.2.1 u.2.2.2.2.2.2.2.2.2.2.2.2 :: oX1 hi (nI (pushN hn)) hv :: (X ++ u.1)) t) A) (([.ref xo, .int xd, .int xu] : List Value).toArray) s 0 0 A) (F0 m 0 ls [])
  refine lv_iload_n hx hb dX8_leap_0 rfl (lv_at hl 1 rfl) ?_
  refine cS_i CF hK hN hA hS (cut_of 6 [0, 1, 2, 3, 4, 5] hP hD rfl rfl rfl) (m_isSide l D cI cZ cW cJ A (oX8 xo w hi sn tx f mm re ro (bI mk) (bI rk) :: oX7 w wb ws wc wr wl ww wf :: aI cI wb 10 wbl :: aI cI ws 3 wse :: oX0 f fc fr ft fo fm fs fi :: oX1 hi (nI hn) hv :: (X ++ HR)) xd) (va_cwS 1 hts gX8_leap_X8_isSide rfl rfl rfl (by decide +kernel) ⟨Nat.le_of_ble_eq_true rfl, Nat.le_of_ble_eq_true rfl⟩) (As := [.int xd]) (rest := []) rfl hl.1 rfl (Nat.le_of_ble_eq_true rfl) dX8_leap_1 ⟨Nat.le_of_ble_eq_true rfl, Nat.le_of_ble_eq_true rfl⟩ (fun r_1 _ H locs hq hP hD hS => ?_)
  have hq : r_1 = bI (isSideX xd) := hq
  subst hq
  have hP : va_P D vwCl (oX8 xo w hi sn tx f mm re ro (bI mk) (bI rk) :: oX7 w wb ws wc wr wl ww wf :: aI cI wb 10 wbl :: aI cI ws 3 wse :: oX0 f fc fr ft fo fm fs fi :: oX1 hi (nI hn) hv :: (X ++ HR)) H := pm_P hP 6 [0, 1, 2, 3, 4, 5] rfl
  have hD : va_D A (oX8 xo w hi sn tx f mm re ro (bI mk) (bI rk) :: oX7 w wb ws wc wr wl ww wf :: aI cI wb 10 wbl :: aI cI ws 3 wse :: oX0 f fc fr ft fo fm fs fi :: oX1 hi (nI hn) hv :: (X ++ HR)) := pm_D hD 6 [0, 1, 2, 3, 4, 5] rfl rfl rfl
  refine lv_if_eq (tgt := 14) hx hb dX8_leap_4 (by decide) (fun c_4 => ?_) (fun c_4 => ?_)
  · exact (hpe "java/lang/IllegalArgumentException" (⟨rfl, Or.inl (bf_c c_4)⟩)).elim
  · refine lv_iload_n hx hb dX8_leap_7 rfl (lv_at hl 2 rfl) ?_
    refine cS_i CF hK hN hA hS (cut_of 6 [0, 1, 2, 3, 4, 5] hP hD rfl rfl rfl) (m_isRunUp l D cI cZ cW cJ A (oX8 xo w hi sn tx f mm re ro (bI mk) (bI rk) :: oX7 w wb ws wc wr wl ww wf :: aI cI wb 10 wbl :: aI cI ws 3 wse :: oX0 f fc fr ft fo fm fs fi :: oX1 hi (nI hn) hv :: (X ++ HR)) xu) (va_cwS 1 hts gX8_leap_X8_isRunUp rfl rfl rfl (by decide +kernel) ⟨Nat.le_of_ble_eq_true rfl, Nat.le_of_ble_eq_true rfl⟩) (As := [.int xu]) (rest := []) rfl hl.1 rfl (Nat.le_of_ble_eq_true rfl) dX8_leap_8 ⟨Nat.le_of_ble_eq_true rfl, Nat.le_of_ble_eq_true rfl⟩ (fun r_8 _ H locs hq hP hD hS => ?_)
    have hq : r_8 = bI (isRunX xu) := hq
    subst hq
    have hP : va_P D vwCl (oX8 xo w hi sn tx f mm re ro (bI mk) (bI rk) :: oX7 w wb ws wc wr wl ww wf :: aI cI wb 10 wbl :: aI cI ws 3 wse :: oX0 f fc fr ft fo fm fs fi :: oX1 hi (nI hn) hv :: (X ++ HR)) H := pm_P hP 6 [0, 1, 2, 3, 4, 5] rfl
    have hD : va_D A (oX8 xo w hi sn tx f mm re ro (bI mk) (bI rk) :: oX7 w wb ws wc wr wl ww wf :: aI cI wb 10 wbl :: aI cI ws 3 wse :: oX0 f fc fr ft fo fm fs fi :: oX1 hi (nI hn) hv :: (X ++ HR)) := pm_D hD 6 [0, 1, 2, 3, 4, 5] rfl rfl rfl
    refine lv_if_ne (tgt := 24) hx hb dX8_leap_11 (by decide) (fun c_11 => ?_) (fun c_11 => ?_)
    · obtain ⟨ak, hak, e1⟩ := isRun_nI (bt_c c_11)
      have hK9 : leapK S xd xu.toNatClampNeg = leapK S xd ak := by rw [e1, nI_clamp (by omega)]
      refine lv_aload_n hx hb dX8_leap_24 rfl (lv_at hl 0 rfl) ?_
      refine va_get (D := D) (ci := 8) (v := .ref hi) (C := RX8) (T := TX8) (N := 10) hx hb hts hiX8 hown hK hP 0 rfl rfl 1 (by decide) (hts (.fieldLink RX8 19 "LedgeLeaps" "history" "LLedgeLeaps$History;") (List.mem_of_getElem? (i := 3) rfl)) (fun _ h9 => h9) rfl dX8_leap_25 ?_
      refine lv_aload_n hx hb dX8_leap_28 rfl (lv_at hl 0 rfl) ?_
      refine va_get (D := D) (ci := 8) (v := .ref w) (C := RX8) (T := TX8) (N := 10) hx hb hts hiX8 hown hK hP 0 rfl rfl 0 (by decide) (hts (.fieldLink RX8 12 "LedgeLeaps" "world" "LLedgeLeaps$World;") (List.mem_of_getElem? (i := 4) rfl)) (fun _ h9 => h9) rfl dX8_leap_29 ?_
      refine cV_v CF hK hN hA hS (cut_of 6 [5, 1, 2, 3, 0, 4] hP hD rfl rfl rfl) (m_save l D cI cZ cW cJ A (oX8 xo w hi sn tx f mm re ro (bI mk) (bI rk) :: oX0 f fc fr ft fo fm fs fi :: X) hi hv w wb ws wc wr wl ww wf wbl wse HR hist S hn hR hS0) (cwV 1 hts gX8_leap_X1_save rfl rfl rfl (by decide +kernel) ⟨Nat.le_of_ble_eq_true rfl, Nat.le_of_ble_eq_true rfl⟩) (As := [.ref w]) (rest := []) (ci := 1) (q0 := 0) rfl rfl rfl hl.1 rfl (Nat.le_of_ble_eq_true rfl) dX8_leap_32 ⟨Nat.le_of_ble_eq_true rfl, Nat.le_of_ble_eq_true rfl⟩ (fun u_32 H locs hq hP hD hS => ?_)
      have hq_32 : HistR cI cW hv (pushH hist hn S) (pushN hn) u_32 := hq
      have hP : va_P D vwCl (oX8 xo w hi sn tx f mm re ro (bI mk) (bI rk) :: oX7 w wb ws wc wr wl ww wf :: aI cI wb 10 wbl :: aI cI ws 3 wse :: oX0 f fc fr ft fo fm fs fi :: oX1 hi (nI (pushN hn)) hv :: (X ++ u_32)) H := pm_P hP 6 [4, 1, 2, 3, 5, 0] rfl
      have hD : va_D A (oX8 xo w hi sn tx f mm re ro (bI mk) (bI rk) :: oX7 w wb ws wc wr wl ww wf :: aI cI wb 10 wbl :: aI cI ws 3 wse :: oX0 f fc fr ft fo fm fs fi :: oX1 hi (nI (pushN hn)) hv :: (X ++ u_32)) := pm_D hD 6 [4, 1, 2, 3, 5, 0] rfl rfl rfl
      refine lv_aload_n hx hb dX8_leap_35 rfl (lv_at hl 0 rfl) ?_
      refine lv_iload_n hx hb dX8_leap_36 rfl (lv_at hl 1 rfl) ?_
      refine lv_iload_n hx hb dX8_leap_37 rfl (lv_at hl 2 rfl) ?_
      refine top_i (y := (nI ak)) e1 ?_
      refine cV_i CF hK hN hA hS (cut_of 6 [0, 1, 2, 3, 4, 5] hP hD rfl rfl rfl) (m_runnerLeaps l D cI cZ cW cJ A (oX1 hi (nI (pushN hn)) hv :: (X ++ u_32)) xo hi sn tx f mm re ro mk rk w wb ws wc wr wl ww wf wbl wse fc fr ft fo fm fs fi S xd ak hS0 hWf) (cwV 2 hts gX8_leap_X8_runnerLeaps rfl rfl rfl (by decide +kernel) ⟨Nat.le_of_ble_eq_true rfl, Nat.le_of_ble_eq_true rfl⟩) (As := [.int xd, .int (nI ak)]) (rest := []) (ci := 8) (q0 := 0) rfl rfl rfl hl.1 rfl (Nat.le_of_ble_eq_true rfl) dX8_leap_38 ⟨Nat.le_of_ble_eq_true rfl, Nat.le_of_ble_eq_true rfl⟩ (fun r_38 u_38 H locs hq hP hD hS => ?_)
      have hq_38 : r_38 = (leapK S xd ak).2 ∧ AbsX (leapK S xd ak).1 wbl wse u_38.1 u_38.2.1 u_38.2.2.1 u_38.2.2.2.1 u_38.2.2.2.2.1 := hq
      have hr_38 : r_38 = (leapK S xd ak).2 := hq_38.1
      subst hr_38
      have hP : va_P D vwCl (oX8 xo w hi sn tx f mm re ro (bI mk) (bI rk) :: oX7 w wb ws u_38.1 u_38.2.1 u_38.2.2.1 u_38.2.2.2.1 u_38.2.2.2.2.1 :: aI cI wb 10 wbl :: aI cI ws 3 wse :: oX0 f u_38.2.2.2.2.2.1 u_38.2.2.2.2.2.2.1 u_38.2.2.2.2.2.2.2.1 u_38.2.2.2.2.2.2.2.2.1 u_38.2.2.2.2.2.2.2.2.2.1 u_38.2.2.2.2.2.2.2.2.2.2.1 u_38.2.2.2.2.2.2.2.2.2.2.2 :: oX1 hi (nI (pushN hn)) hv :: (X ++ u_32)) H := pm_P hP 6 [0, 1, 2, 3, 4, 5] rfl
      have hD : va_D A (oX8 xo w hi sn tx f mm re ro (bI mk) (bI rk) :: oX7 w wb ws u_38.1 u_38.2.1 u_38.2.2.1 u_38.2.2.2.1 u_38.2.2.2.2.1 :: aI cI wb 10 wbl :: aI cI ws 3 wse :: oX0 f u_38.2.2.2.2.2.1 u_38.2.2.2.2.2.2.1 u_38.2.2.2.2.2.2.2.1 u_38.2.2.2.2.2.2.2.2.1 u_38.2.2.2.2.2.2.2.2.2.1 u_38.2.2.2.2.2.2.2.2.2.2.1 u_38.2.2.2.2.2.2.2.2.2.2.2 :: oX1 hi (nI (pushN hn)) hv :: (X ++ u_32)) := pm_D hD 6 [0, 1, 2, 3, 4, 5] rfl rfl rfl
      exact W.iret (v := ((leapK S xd ak).2)) hx hb hr (fun t9 ht9 hW9 => ⟨⟨((leapK S xd ak).2), (u_32, u_38), rfl, by rw [hK9]; exact ⟨bt_c c_4, bt_c c_11, rfl, hq_38.2, hq_32⟩, by rw [ht9]; exact hP, hD⟩, hS.F ht9⟩) hS.2.2 dX8_leap_41
    · exact (hpe "java/lang/IllegalArgumentException" (⟨rfl, Or.inr (bf_c c_11)⟩)).elim
def putK (S : KS) (c r : Nat) : KS × Int32 := if stB (Bk S.1) (nI c) (nI r) = true then ((S.1, S.2.1, (c, r), S.2.2.2), lgF (SB (Bk S.1)) (20 * r + c)) else (refK S, -1)
theorem AbsX.put {S : KS} {bl se : Nat → Int32} {c r l w f : Int32} (h : AbsX S bl se c r l w f) {i j : Nat} (hs : stB (blkX bl) (nI i) (nI j) = true) : (putK S i j).2 = lgF (SB (blkX bl)) (20 * j + i) ∧ AbsX (putK S i j).1 bl se (nI i) (nI j) l w f := by
  rw [blk_abs h] at hs ⊢
  unfold putK
  rw [if_pos hs]
  exact ⟨rfl, h.1, h.2.1, ⟨rfl, rfl⟩, h.2.2.2⟩
theorem AbsX.nput {S : KS} {bl se : Nat → Int32} {c r l w f : Int32} (h : AbsX S bl se c r l w f) {i j : Nat} (hs : stB (blkX bl) (nI i) (nI j) = false) : putK S i j = (refK S, -1) := by
  rw [blk_abs h] at hs
  unfold putK
  rw [if_neg (by rw [hs]; decide)]
theorem Wf_put {S : KS} (h : Wf S) {c r : Nat} (hc : c < 20) (hr : r < 10) : Wf (putK S c r).1 := by
  unfold putK
  split
  · rename_i q; exact ⟨h.1, hc, hr, q⟩
  · exact h
set_option maxHeartbeats 4000000 in
set_option maxRecDepth 100000 in
theorem m_put (l : Launch) (D : va_G) (cI cZ cW cJ : ClassId) (A : Nat → Prop) (X : va_W) (xo hi sn tx f mm re ro : Nat) (mk rk : Bool) (mro mfi mle mlo : Nat) (gro gfi gle glo : Nat → Int32) (ms : Int32) (w wb ws : Nat) (wc wr wl ww wf : Int32) (wbl wse : Nat → Int32) (hv : Nat) (HR : va_W) (hist : Nat → KS) (hn : Nat) (S : KS) (xc xr : Int32) (hS0 : AbsX S wbl wse wc wr wl ww wf) (hR : HistR cI cW hv hist hn HR) (hC : mk = true → MapOK (blkX wbl) ms gro gfi gle glo) (hpe : ∀ E : String, ¬ (E = "java/lang/IndexOutOfBoundsException" ∧ isCellX xc xr = false)) : Met l yX8_put wsX8_put ({ frames := 4, cells := 0, slots := 0, locals := 89 }) (va_Pc [.ref xo, .int xc, .int xr] (wd D (tyL cI cZ cW cJ) A (oX8 xo w hi sn tx f mm re ro (bI mk) (bI rk) :: oX2 mm mro mfi mle ms mlo :: aI cI mro 100 gro :: aI cI mfi 100 gfi :: aI cI mle 100 gle :: aI cI mlo 200 glo :: oX7 w wb ws wc wr wl ww wf :: aI cI wb 10 wbl :: aI cI ws 3 wse :: oX1 hi (nI hn) hv :: (X ++ HR)))) (va_Qi (fun (r : Int32) (u : va_W × Int32 × Int32 × Int32 × Bool × Int32 × (Nat → Int32) × (Nat → Int32) × (Nat → Int32) × (Nat → Int32)) => isCellX xc xr = true ∧ r = (putK S xc.toNatClampNeg xr.toNatClampNeg).2 ∧ AbsX (putK S xc.toNatClampNeg xr.toNatClampNeg).1 wbl wse u.2.1 u.2.2.1 wl ww u.2.2.2.1 ∧ (u.2.2.2.2.1 = true → MapOK (blkX wbl) u.2.2.2.2.2.1 u.2.2.2.2.2.2.1 u.2.2.2.2.2.2.2.1 u.2.2.2.2.2.2.2.2.1 u.2.2.2.2.2.2.2.2.2) ∧ (mk = true → u.2.2.2.2.1 = true) ∧ HistR cI cW hv (pushH hist hn S) (pushN hn) u.1) (fun (u : va_W × Int32 × Int32 × Int32 × Bool × Int32 × (Nat → Int32) × (Nat → Int32) × (Nat → Int32) × (Nat → Int32)) t => wq D A (oX8 xo w hi sn tx f mm re ro (bI u.2.2.2.2.1) (bI rk) :: oX2 mm mro mfi mle u.2.2.2.2.2.1 mlo :: aI cI mro 100 u.2.2.2.2.2.2.1 :: aI cI mfi 100 u.2.2.2.2.2.2.2.1 :: aI cI mle 100 u.2.2.2.2.2.2.2.2.1 :: aI cI mlo 200 u.2.2.2.2.2.2.2.2.2 :: oX7 w wb ws u.2.1 u.2.2.1 wl ww u.2.2.2.1 :: aI cI wb 10 wbl :: aI cI ws 3 wse :: oX1 hi (nI (pushN hn)) hv :: (X ++ u.1)) t) A) 0 0 A := by
  refine Met.ofW (cc := cX8_put) (maxL := 3) (ret := (some .int)) (by decide) rfl ?_
  intro p e s m args below meth c s₁ B hml hv
  obtain ⟨rfl, hsz9, hP, hK, hD, hN⟩ := hv
  have hx := B.exec
  have hb := B.bytes
  have hr := B.returns
  have hts := atoms_spec (ws := wsX8_put) B.pre
  have hown : s.vm.findClass RX8 = some m.cls := findClass_of_methodNamed B.named
  have hlocks := B.notSynchronized
  have CF : CallFix p m c cX8_put 3 s _ wsX8_put RX8 := ⟨hx, hb, hml, hown, hts⟩
  have hA : ∀ q : Nat, s.heap.size ≤ q → A q := hsz9
  have hS : va_S A s.heap s.heap [] := va_S.rf
  have hiX7 : ∀ w ∈ u_ws RX7 TX7 7, w ∈ wsX8_put := fun _ h => List.mem_cons_of_mem _ (List.mem_append_left _ (List.mem_append_left _ (List.mem_append_left _ (List.mem_append_right _ (h)))))
  have hiX8 : ∀ w ∈ u_ws RX8 TX8 10, w ∈ wsX8_put := fun _ h => List.mem_cons_of_mem _ (List.mem_append_left _ (List.mem_append_left _ (List.mem_append_left _ (List.mem_append_left _ (List.mem_append_right _ (h))))))
  have hl := lv_entry ([.ref xo, .int xc, .int xr]) (n := 3) (Nat.le_of_ble_eq_true rfl)
  rw [lg_entry_eq]
  generalize (lg_sl ([.ref xo, .int xc, .int xr]) ++ List.replicate (3 - (lg_sl ([.ref xo, .int xc, .int xr])).length) Slot.unset).toArray = ls at hl ⊢
  have hl : lv_has ls 3 [(0, .ref xo), (1, .int xc), (2, .int xr)] := hl
  show W p l e ({ frames := 4, cells := 0, slots := 0, locals := 89 } : Room) s m (([.ref xo, .int xc, .int xr] : List Value).toArray) below meth c s.heap [] 0 0 (MQ below (va_Qi (fun (r : Int32) (u : va_W × Int32 × Int32 × Int32 × Bool × Int32 × (Nat → Int32) × (Nat → Int32) × (Nat → Int32) × (Nat → Int32)) => isCellX xc xr = true ∧ r = (putK S xc.toNatClampNeg xr.toNatClampNeg).2 ∧ AbsX (putK S xc.toNatClampNeg xr.toNatClampNeg).1 wbl wse u.2.1 u.2.2.1 wl ww u.2.2.2.1 ∧ (u.2.2.2.2.1 = true → MapOK (blkX wbl) u.2.2.2.2.2.1 u.2.2.2.2.2.2.1 u.2.2.2.2.2.2.2.1 u.2.2.2.2.2.2.2.2.1 u.2.2.2.2.2.2.2.2.2) ∧ (mk = true → u.2.2.2.2.1 = true) ∧ HistR cI cW hv (pushH hist hn S) (pushN hn) u.1) (fun (u : va_W × Int32 × Int32 × Int32 × Bool × Int32 × (Nat → Int32) × (Nat → Int32) × (Nat → Int32) × (Nat → Int32)) t => wq D A (oX8 xo w hi sn tx f mm re ro (bI u.2.2.2.2.1) (bI rk) :: oX2 mm mro mfi mle u.2.2.2.2.2.1 mlo :: aI cI mro 100 u.2.2.2.2.2.2.1 :: aI cI mfi 100 u.2.2.2.2.2.2.2.1 :: aI cI mle 100 u.2.2.2.2.2.2.2.2.1 :: aI cI mlo 200 u.2.2.2.2.2.2.2.2.2 :: oX7 w wb ws u.2.1 u.2.2.1 wl ww u.2.2.2.1 :: aI cI wb 10 wbl :: aI cI ws 3 wse :: oX1 hi (nI (pushN hn)) hv :: (X ++ u.1)) t) A) (([.ref xo, .int xc, .int xr] : List Value).toArray) s 0 0 A) (F0 m 0 ls [])
  refine lv_iload_n hx hb dX8_put_0 rfl (lv_at hl 1 rfl) ?_
  refine lv_iload_n hx hb dX8_put_1 rfl (lv_at hl 2 rfl) ?_
  refine cS_i CF hK hN hA hS (cut_of 10 [0, 1, 2, 3, 4, 5, 6, 7, 8, 9] hP hD rfl rfl rfl) (m_isCell l D cI cZ cW cJ A (oX8 xo w hi sn tx f mm re ro (bI mk) (bI rk) :: oX2 mm mro mfi mle ms mlo :: aI cI mro 100 gro :: aI cI mfi 100 gfi :: aI cI mle 100 gle :: aI cI mlo 200 glo :: oX7 w wb ws wc wr wl ww wf :: aI cI wb 10 wbl :: aI cI ws 3 wse :: oX1 hi (nI hn) hv :: (X ++ HR)) xc xr) (va_cwS 2 hts gX8_put_X8_isCell rfl rfl rfl (by decide +kernel) ⟨Nat.le_of_ble_eq_true rfl, Nat.le_of_ble_eq_true rfl⟩) (As := [.int xc, .int xr]) (rest := []) rfl hl.1 rfl (Nat.le_of_ble_eq_true rfl) dX8_put_2 ⟨Nat.le_of_ble_eq_true rfl, Nat.le_of_ble_eq_true rfl⟩ (fun r_2 _ H locs hq hP hD hS => ?_)
  have hq : r_2 = bI (isCellX xc xr) := hq
  subst hq
  have hP : va_P D vwCl (oX8 xo w hi sn tx f mm re ro (bI mk) (bI rk) :: oX2 mm mro mfi mle ms mlo :: aI cI mro 100 gro :: aI cI mfi 100 gfi :: aI cI mle 100 gle :: aI cI mlo 200 glo :: oX7 w wb ws wc wr wl ww wf :: aI cI wb 10 wbl :: aI cI ws 3 wse :: oX1 hi (nI hn) hv :: (X ++ HR)) H := pm_P hP 10 [0, 1, 2, 3, 4, 5, 6, 7, 8, 9] rfl
  have hD : va_D A (oX8 xo w hi sn tx f mm re ro (bI mk) (bI rk) :: oX2 mm mro mfi mle ms mlo :: aI cI mro 100 gro :: aI cI mfi 100 gfi :: aI cI mle 100 gle :: aI cI mlo 200 glo :: oX7 w wb ws wc wr wl ww wf :: aI cI wb 10 wbl :: aI cI ws 3 wse :: oX1 hi (nI hn) hv :: (X ++ HR)) := pm_D hD 10 [0, 1, 2, 3, 4, 5, 6, 7, 8, 9] rfl rfl rfl
  refine lv_if_ne (tgt := 18) hx hb dX8_put_5 (by decide) (fun c_5 => ?_) (fun c_5 => ?_)
  · obtain ⟨ac, ar, hac, har, e1, e2⟩ := isCell_nI (bt_c c_5)
    have hK9 : putK S xc.toNatClampNeg xr.toNatClampNeg = putK S ac ar := by rw [e1, e2, nI_clamp (by omega), nI_clamp (by omega)]
    refine lv_aload_n hx hb dX8_put_18 rfl (lv_at hl 0 rfl) ?_
    refine va_get (D := D) (ci := 8) (v := .ref hi) (C := RX8) (T := TX8) (N := 10) hx hb hts hiX8 hown hK hP 0 rfl rfl 1 (by decide) (hts (.fieldLink RX8 19 "LedgeLeaps" "history" "LLedgeLeaps$History;") (List.mem_of_getElem? (i := 3) rfl)) (fun _ h9 => h9) rfl dX8_put_19 ?_
    refine lv_aload_n hx hb dX8_put_22 rfl (lv_at hl 0 rfl) ?_
    refine va_get (D := D) (ci := 8) (v := .ref w) (C := RX8) (T := TX8) (N := 10) hx hb hts hiX8 hown hK hP 0 rfl rfl 0 (by decide) (hts (.fieldLink RX8 12 "LedgeLeaps" "world" "LLedgeLeaps$World;") (List.mem_of_getElem? (i := 4) rfl)) (fun _ h9 => h9) rfl dX8_put_23 ?_
    refine cV_v CF hK hN hA hS (cut_of 10 [9, 6, 7, 8, 0, 1, 2, 3, 4, 5] hP hD rfl rfl rfl) (m_save l D cI cZ cW cJ A (oX8 xo w hi sn tx f mm re ro (bI mk) (bI rk) :: oX2 mm mro mfi mle ms mlo :: aI cI mro 100 gro :: aI cI mfi 100 gfi :: aI cI mle 100 gle :: aI cI mlo 200 glo :: X) hi hv w wb ws wc wr wl ww wf wbl wse HR hist S hn hR hS0) (cwV 1 hts gX8_put_X1_save rfl rfl rfl (by decide +kernel) ⟨Nat.le_of_ble_eq_true rfl, Nat.le_of_ble_eq_true rfl⟩) (As := [.ref w]) (rest := []) (ci := 1) (q0 := 0) rfl rfl rfl hl.1 rfl (Nat.le_of_ble_eq_true rfl) dX8_put_26 ⟨Nat.le_of_ble_eq_true rfl, Nat.le_of_ble_eq_true rfl⟩ (fun u_26 H locs hq hP hD hS => ?_)
    have hq_26 : HistR cI cW hv (pushH hist hn S) (pushN hn) u_26 := hq
    have hP : va_P D vwCl (oX8 xo w hi sn tx f mm re ro (bI mk) (bI rk) :: oX2 mm mro mfi mle ms mlo :: aI cI mro 100 gro :: aI cI mfi 100 gfi :: aI cI mle 100 gle :: aI cI mlo 200 glo :: oX7 w wb ws wc wr wl ww wf :: aI cI wb 10 wbl :: aI cI ws 3 wse :: oX1 hi (nI (pushN hn)) hv :: (X ++ u_26)) H := pm_P hP 10 [4, 5, 6, 7, 8, 9, 1, 2, 3, 0] rfl
    have hD : va_D A (oX8 xo w hi sn tx f mm re ro (bI mk) (bI rk) :: oX2 mm mro mfi mle ms mlo :: aI cI mro 100 gro :: aI cI mfi 100 gfi :: aI cI mle 100 gle :: aI cI mlo 200 glo :: oX7 w wb ws wc wr wl ww wf :: aI cI wb 10 wbl :: aI cI ws 3 wse :: oX1 hi (nI (pushN hn)) hv :: (X ++ u_26)) := pm_D hD 10 [4, 5, 6, 7, 8, 9, 1, 2, 3, 0] rfl rfl rfl
    refine lv_aload_n hx hb dX8_put_29 rfl (lv_at hl 0 rfl) ?_
    refine va_get (D := D) (ci := 8) (v := .ref w) (C := RX8) (T := TX8) (N := 10) hx hb hts hiX8 hown hK hP 0 rfl rfl 0 (by decide) (hts (.fieldLink RX8 12 "LedgeLeaps" "world" "LLedgeLeaps$World;") (List.mem_of_getElem? (i := 4) rfl)) (fun _ h9 => h9) rfl dX8_put_30 ?_
    refine lv_iload_n hx hb dX8_put_33 rfl (lv_at hl 1 rfl) ?_
    refine top_i (y := (nI ac)) e1 ?_
    refine lv_iload_n hx hb dX8_put_34 rfl (lv_at hl 2 rfl) ?_
    refine top_i (y := (nI ar)) e2 ?_
    refine cV_i CF hK hN hA hS (cut_of 10 [6, 7, 0, 1, 2, 3, 4, 5, 8, 9] hP hD rfl rfl rfl) (m_canStand l D cI cZ cW cJ A (oX8 xo w hi sn tx f mm re ro (bI mk) (bI rk) :: oX2 mm mro mfi mle ms mlo :: aI cI mro 100 gro :: aI cI mfi 100 gfi :: aI cI mle 100 gle :: aI cI mlo 200 glo :: aI cI ws 3 wse :: oX1 hi (nI (pushN hn)) hv :: (X ++ u_26)) w wb ws wc wr wl ww wf wbl (nI ac) (nI ar)) (cwV 2 hts gX8_put_X7_canStand rfl rfl rfl (by decide +kernel) ⟨Nat.le_of_ble_eq_true rfl, Nat.le_of_ble_eq_true rfl⟩) (As := [.int (nI ac), .int (nI ar)]) (rest := []) (ci := 7) (q0 := 0) rfl rfl rfl hl.1 rfl (Nat.le_of_ble_eq_true rfl) dX8_put_35 ⟨Nat.le_of_ble_eq_true rfl, Nat.le_of_ble_eq_true rfl⟩ (fun r_35 _ H locs hq hP hD hS => ?_)
    have hq : r_35 = bI (stB (blkX wbl) (nI ac) (nI ar)) := hq
    subst hq
    have hP : va_P D vwCl (oX8 xo w hi sn tx f mm re ro (bI mk) (bI rk) :: oX2 mm mro mfi mle ms mlo :: aI cI mro 100 gro :: aI cI mfi 100 gfi :: aI cI mle 100 gle :: aI cI mlo 200 glo :: oX7 w wb ws wc wr wl ww wf :: aI cI wb 10 wbl :: aI cI ws 3 wse :: oX1 hi (nI (pushN hn)) hv :: (X ++ u_26)) H := pm_P hP 10 [2, 3, 4, 5, 6, 7, 0, 1, 8, 9] rfl
    have hD : va_D A (oX8 xo w hi sn tx f mm re ro (bI mk) (bI rk) :: oX2 mm mro mfi mle ms mlo :: aI cI mro 100 gro :: aI cI mfi 100 gfi :: aI cI mle 100 gle :: aI cI mlo 200 glo :: oX7 w wb ws wc wr wl ww wf :: aI cI wb 10 wbl :: aI cI ws 3 wse :: oX1 hi (nI (pushN hn)) hv :: (X ++ u_26)) := pm_D hD 10 [2, 3, 4, 5, 6, 7, 0, 1, 8, 9] rfl rfl rfl
    refine lv_if_ne (tgt := 56) hx hb dX8_put_38 (by decide) (fun c_38 => ?_) (fun c_38 => ?_)
    · refine lv_aload_n hx hb dX8_put_56 rfl (lv_at hl 0 rfl) ?_
      refine va_get (D := D) (ci := 8) (v := .ref w) (C := RX8) (T := TX8) (N := 10) hx hb hts hiX8 hown hK hP 0 rfl rfl 0 (by decide) (hts (.fieldLink RX8 12 "LedgeLeaps" "world" "LLedgeLeaps$World;") (List.mem_of_getElem? (i := 4) rfl)) (fun _ h9 => h9) rfl dX8_put_57 ?_
      refine lv_iload_n hx hb dX8_put_60 rfl (lv_at hl 1 rfl) ?_
      refine top_i (y := (nI ac)) e1 ?_
      refine va_put (D := D) (ci := 7) (v := .int (nI ac)) (ty := .int) (C := RX7) (T := TX7) (N := 7) hx hb hts hiX7 tyX7 tyX7_ok nmX7 hown hK hP hD hS 6 rfl rfl 2 (by decide) (hts (.fieldLink RX8 137 "LedgeLeaps$World" "column" "I") (List.mem_of_getElem? (i := 6) rfl)) (fun _ h9 => h9) rfl (by decide +kernel) rfl rfl (Nat.le_of_ble_eq_true rfl) dX8_put_61 (fun H locs hP hD hS => ?_)
      have hP : va_P D vwCl (oX8 xo w hi sn tx f mm re ro (bI mk) (bI rk) :: oX2 mm mro mfi mle ms mlo :: aI cI mro 100 gro :: aI cI mfi 100 gfi :: aI cI mle 100 gle :: aI cI mlo 200 glo :: oX7 w wb ws (nI ac) wr wl ww wf :: aI cI wb 10 wbl :: aI cI ws 3 wse :: oX1 hi (nI (pushN hn)) hv :: (X ++ u_26)) H := hP
      have hD : va_D A (oX8 xo w hi sn tx f mm re ro (bI mk) (bI rk) :: oX2 mm mro mfi mle ms mlo :: aI cI mro 100 gro :: aI cI mfi 100 gfi :: aI cI mle 100 gle :: aI cI mlo 200 glo :: oX7 w wb ws (nI ac) wr wl ww wf :: aI cI wb 10 wbl :: aI cI ws 3 wse :: oX1 hi (nI (pushN hn)) hv :: (X ++ u_26)) := hD
      refine lv_aload_n hx hb dX8_put_64 rfl (lv_at hl 0 rfl) ?_
      refine va_get (D := D) (ci := 8) (v := .ref w) (C := RX8) (T := TX8) (N := 10) hx hb hts hiX8 hown hK hP 0 rfl rfl 0 (by decide) (hts (.fieldLink RX8 12 "LedgeLeaps" "world" "LLedgeLeaps$World;") (List.mem_of_getElem? (i := 4) rfl)) (fun _ h9 => h9) rfl dX8_put_65 ?_
      refine lv_iload_n hx hb dX8_put_68 rfl (lv_at hl 2 rfl) ?_
      refine top_i (y := (nI ar)) e2 ?_
      refine va_put (D := D) (ci := 7) (v := .int (nI ar)) (ty := .int) (C := RX7) (T := TX7) (N := 7) hx hb hts hiX7 tyX7 tyX7_ok nmX7 hown hK hP hD hS 6 rfl rfl 3 (by decide) (hts (.fieldLink RX8 140 "LedgeLeaps$World" "row" "I") (List.mem_of_getElem? (i := 7) rfl)) (fun _ h9 => h9) rfl (by decide +kernel) rfl rfl (Nat.le_of_ble_eq_true rfl) dX8_put_69 (fun H locs hP hD hS => ?_)
      have hP : va_P D vwCl (oX8 xo w hi sn tx f mm re ro (bI mk) (bI rk) :: oX2 mm mro mfi mle ms mlo :: aI cI mro 100 gro :: aI cI mfi 100 gfi :: aI cI mle 100 gle :: aI cI mlo 200 glo :: oX7 w wb ws (nI ac) (nI ar) wl ww wf :: aI cI wb 10 wbl :: aI cI ws 3 wse :: oX1 hi (nI (pushN hn)) hv :: (X ++ u_26)) H := hP
      have hD : va_D A (oX8 xo w hi sn tx f mm re ro (bI mk) (bI rk) :: oX2 mm mro mfi mle ms mlo :: aI cI mro 100 gro :: aI cI mfi 100 gfi :: aI cI mle 100 gle :: aI cI mlo 200 glo :: oX7 w wb ws (nI ac) (nI ar) wl ww wf :: aI cI wb 10 wbl :: aI cI ws 3 wse :: oX1 hi (nI (pushN hn)) hv :: (X ++ u_26)) := hD
      refine lv_aload_n hx hb dX8_put_72 rfl (lv_at hl 0 rfl) ?_
      refine cV_v CF hK hN hA hS (cut_of 10 [0, 1, 2, 3, 4, 5, 6, 7, 8, 9] hP hD rfl rfl rfl) (m_knowMap l D cI cZ cW cJ A (aI cI ws 3 wse :: oX1 hi (nI (pushN hn)) hv :: (X ++ u_26)) xo hi sn tx f mm re ro mk rk mro mfi mle mlo gro gfi gle glo ms w wb ws (nI ac) (nI ar) wl ww wf wbl hC) (cwV 0 hts gX8_put_X8_knowMap rfl rfl rfl (by decide +kernel) ⟨Nat.le_of_ble_eq_true rfl, Nat.le_of_ble_eq_true rfl⟩) (As := []) (rest := []) (ci := 8) (q0 := 0) rfl rfl rfl hl.1 rfl (Nat.le_of_ble_eq_true rfl) dX8_put_73 ⟨Nat.le_of_ble_eq_true rfl, Nat.le_of_ble_eq_true rfl⟩ (fun u_73 H locs hq hP hD hS => ?_)
      have hq_73 : MapOK (blkX wbl) u_73.1 u_73.2.1 u_73.2.2.1 u_73.2.2.2.1 u_73.2.2.2.2 := hq
      have hP : va_P D vwCl (oX8 xo w hi sn tx f mm re ro (bI true) (bI rk) :: oX2 mm mro mfi mle u_73.1 mlo :: aI cI mro 100 u_73.2.1 :: aI cI mfi 100 u_73.2.2.1 :: aI cI mle 100 u_73.2.2.2.1 :: aI cI mlo 200 u_73.2.2.2.2 :: oX7 w wb ws (nI ac) (nI ar) wl ww wf :: aI cI wb 10 wbl :: aI cI ws 3 wse :: oX1 hi (nI (pushN hn)) hv :: (X ++ u_26)) H := pm_P hP 10 [0, 1, 2, 3, 4, 5, 6, 7, 8, 9] rfl
      have hD : va_D A (oX8 xo w hi sn tx f mm re ro (bI true) (bI rk) :: oX2 mm mro mfi mle u_73.1 mlo :: aI cI mro 100 u_73.2.1 :: aI cI mfi 100 u_73.2.2.1 :: aI cI mle 100 u_73.2.2.2.1 :: aI cI mlo 200 u_73.2.2.2.2 :: oX7 w wb ws (nI ac) (nI ar) wl ww wf :: aI cI wb 10 wbl :: aI cI ws 3 wse :: oX1 hi (nI (pushN hn)) hv :: (X ++ u_26)) := pm_D hD 10 [0, 1, 2, 3, 4, 5, 6, 7, 8, 9] rfl rfl rfl
      have hM9 := hq_73
      have hms : u_73.1 = nI (nL (blkX wbl)) := hM9.1
      rw [hms] at hP hD
      have hP : va_P D vwCl (oX8 xo w hi sn tx f mm re ro (bI true) (bI rk) :: oX2 mm mro mfi mle (nI (nL (blkX wbl))) mlo :: aI cI mro 100 u_73.2.1 :: aI cI mfi 100 u_73.2.2.1 :: aI cI mle 100 u_73.2.2.2.1 :: aI cI mlo 200 u_73.2.2.2.2 :: oX7 w wb ws (nI ac) (nI ar) wl ww wf :: aI cI wb 10 wbl :: aI cI ws 3 wse :: oX1 hi (nI (pushN hn)) hv :: (X ++ u_26)) H := hP
      have hD : va_D A (oX8 xo w hi sn tx f mm re ro (bI true) (bI rk) :: oX2 mm mro mfi mle (nI (nL (blkX wbl))) mlo :: aI cI mro 100 u_73.2.1 :: aI cI mfi 100 u_73.2.2.1 :: aI cI mle 100 u_73.2.2.2.1 :: aI cI mlo 200 u_73.2.2.2.2 :: oX7 w wb ws (nI ac) (nI ar) wl ww wf :: aI cI wb 10 wbl :: aI cI ws 3 wse :: oX1 hi (nI (pushN hn)) hv :: (X ++ u_26)) := hD
      refine lv_aload_n hx hb dX8_put_76 rfl (lv_at hl 0 rfl) ?_
      refine va_get (D := D) (ci := 8) (v := .ref mm) (C := RX8) (T := TX8) (N := 10) hx hb hts hiX8 hown hK hP 0 rfl rfl 5 (by decide) (hts (.fieldLink RX8 47 "LedgeLeaps" "map" "LLedgeLeaps$LedgeMap;") (List.mem_of_getElem? (i := 8) rfl)) (fun _ h9 => h9) rfl dX8_put_77 ?_
      refine lv_iload_n hx hb dX8_put_80 rfl (lv_at hl 1 rfl) ?_
      refine top_i (y := (nI ac)) e1 ?_
      refine lv_iload_n hx hb dX8_put_81 rfl (lv_at hl 2 rfl) ?_
      refine top_i (y := (nI ar)) e2 ?_
      refine cV_i CF hK hN hA hS (cut_of 10 [1, 5, 0, 2, 3, 4, 6, 7, 8, 9] hP hD rfl rfl rfl) (m_ledgeAt l D cI cZ cW cJ A (oX8 xo w hi sn tx f mm re ro (bI true) (bI rk) :: aI cI mro 100 u_73.2.1 :: aI cI mfi 100 u_73.2.2.1 :: aI cI mle 100 u_73.2.2.2.1 :: oX7 w wb ws (nI ac) (nI ar) wl ww wf :: aI cI wb 10 wbl :: aI cI ws 3 wse :: oX1 hi (nI (pushN hn)) hv :: (X ++ u_26)) mm mro mfi mle mlo u_73.2.2.2.2 (nL (blkX wbl)) (nI ac) (nI ar)) (cwV 2 hts gX8_put_X2_ledgeAt rfl rfl rfl (by decide +kernel) ⟨Nat.le_of_ble_eq_true rfl, Nat.le_of_ble_eq_true rfl⟩) (As := [.int (nI ac), .int (nI ar)]) (rest := []) (ci := 2) (q0 := 0) rfl rfl rfl hl.1 rfl (Nat.le_of_ble_eq_true rfl) dX8_put_82 ⟨Nat.le_of_ble_eq_true rfl, Nat.le_of_ble_eq_true rfl⟩ (fun r_82 _ H locs hq hP hD hS => ?_)
      have hq : r_82 = laX u_73.2.2.2.2 (nI ac) (nI ar) := hq
      subst hq
      have hP : va_P D vwCl (oX8 xo w hi sn tx f mm re ro (bI true) (bI rk) :: oX2 mm mro mfi mle (nI (nL (blkX wbl))) mlo :: aI cI mro 100 u_73.2.1 :: aI cI mfi 100 u_73.2.2.1 :: aI cI mle 100 u_73.2.2.2.1 :: aI cI mlo 200 u_73.2.2.2.2 :: oX7 w wb ws (nI ac) (nI ar) wl ww wf :: aI cI wb 10 wbl :: aI cI ws 3 wse :: oX1 hi (nI (pushN hn)) hv :: (X ++ u_26)) H := pm_P hP 10 [2, 0, 3, 4, 5, 1, 6, 7, 8, 9] rfl
      have hD : va_D A (oX8 xo w hi sn tx f mm re ro (bI true) (bI rk) :: oX2 mm mro mfi mle (nI (nL (blkX wbl))) mlo :: aI cI mro 100 u_73.2.1 :: aI cI mfi 100 u_73.2.2.1 :: aI cI mle 100 u_73.2.2.2.1 :: aI cI mlo 200 u_73.2.2.2.2 :: oX7 w wb ws (nI ac) (nI ar) wl ww wf :: aI cI wb 10 wbl :: aI cI ws 3 wse :: oX1 hi (nI (pushN hn)) hv :: (X ++ u_26)) := pm_D hD 10 [2, 0, 3, 4, 5, 1, 6, 7, 8, 9] rfl rfl rfl
      refine top_i (y := (lgF (SB (blkX wbl)) (20 * ar + ac))) (by rw [laX_c hac har]; exact hM9.2.1 _ (by omega)) ?_
      rw [← hms] at hP hD
      exact W.iret (v := (lgF (SB (blkX wbl)) (20 * ar + ac))) hx hb hr (fun t9 ht9 hW9 => ⟨⟨(lgF (SB (blkX wbl)) (20 * ar + ac)), (u_26, nI ac, nI ar, wf, true, u_73.1, u_73.2.1, u_73.2.2.1, u_73.2.2.2.1, u_73.2.2.2.2), rfl, by rw [hK9]; exact ⟨bt_c c_5, (hS0.put (bt_c c_38)).1.symm, (hS0.put (bt_c c_38)).2, fun _ => hM9, fun _ => rfl, hq_26⟩, by rw [ht9]; exact hP, hD⟩, hS.F ht9⟩) hS.2.2 dX8_put_85
    · refine lv_aload_n hx hb dX8_put_41 rfl (lv_at hl 0 rfl) ?_
      refine va_get (D := D) (ci := 8) (v := .ref w) (C := RX8) (T := TX8) (N := 10) hx hb hts hiX8 hown hK hP 0 rfl rfl 0 (by decide) (hts (.fieldLink RX8 12 "LedgeLeaps" "world" "LLedgeLeaps$World;") (List.mem_of_getElem? (i := 4) rfl)) (fun _ h9 => h9) rfl dX8_put_42 ?_
      refine lv_dup hx hb dX8_put_45 rfl ?_
      refine va_get (D := D) (ci := 7) (v := .int wf) (C := RX7) (T := TX7) (N := 7) hx hb hts hiX7 hown hK hP 6 rfl rfl 6 (by decide) (hts (.fieldLink RX8 133 "LedgeLeaps$World" "refused" "I") (List.mem_of_getElem? (i := 5) rfl)) (fun _ h9 => h9) rfl dX8_put_46 ?_
      refine lv_iconst (v := 1) hx hb dX8_put_49 (by decide) ?_
      refine lv_iadd hx hb dX8_put_50 ?_
      refine va_put (D := D) (ci := 7) (v := .int (wf + 1)) (ty := .int) (C := RX7) (T := TX7) (N := 7) hx hb hts hiX7 tyX7 tyX7_ok nmX7 hown hK hP hD hS 6 rfl rfl 6 (by decide) (hts (.fieldLink RX8 133 "LedgeLeaps$World" "refused" "I") (List.mem_of_getElem? (i := 5) rfl)) (fun _ h9 => h9) rfl (by decide +kernel) rfl rfl (Nat.le_of_ble_eq_true rfl) dX8_put_51 (fun H locs hP hD hS => ?_)
      have hP : va_P D vwCl (oX8 xo w hi sn tx f mm re ro (bI mk) (bI rk) :: oX2 mm mro mfi mle ms mlo :: aI cI mro 100 gro :: aI cI mfi 100 gfi :: aI cI mle 100 gle :: aI cI mlo 200 glo :: oX7 w wb ws wc wr wl ww (wf + 1) :: aI cI wb 10 wbl :: aI cI ws 3 wse :: oX1 hi (nI (pushN hn)) hv :: (X ++ u_26)) H := hP
      have hD : va_D A (oX8 xo w hi sn tx f mm re ro (bI mk) (bI rk) :: oX2 mm mro mfi mle ms mlo :: aI cI mro 100 gro :: aI cI mfi 100 gfi :: aI cI mle 100 gle :: aI cI mlo 200 glo :: oX7 w wb ws wc wr wl ww (wf + 1) :: aI cI wb 10 wbl :: aI cI ws 3 wse :: oX1 hi (nI (pushN hn)) hv :: (X ++ u_26)) := hD
      refine lv_iconst (v := (-1)) hx hb dX8_put_54 (by decide) ?_
      exact W.iret (v := (-1)) hx hb hr (fun t9 ht9 hW9 => ⟨⟨(-1), (u_26, wc, wr, wf + 1, mk, ms, gro, gfi, gle, glo), rfl, by rw [hK9, hS0.nput (bf_c c_38)]; exact ⟨bt_c c_5, rfl, hS0.ref, hC, id, hq_26⟩, by rw [ht9]; exact hP, hD⟩, hS.F ht9⟩) hS.2.2 dX8_put_55
  · exact (hpe "java/lang/IndexOutOfBoundsException" (⟨rfl, bf_c c_5⟩)).elim
theorem HistR.le {cI cW : ClassId} {hv : Nat} {hist : Nat → KS} {n : Nat} {HR : va_W} (h : HistR cI cW hv hist n HR) : n ≤ 6 := by
  obtain ⟨_, _, _, _, _, _, _, _, _, _, _, _, _, h, _⟩ := h
  exact h
theorem HistR.pop {cI cW : ClassId} {hv : Nat} {hist : Nat → KS} {n : Nat} {HR : va_W} (h : HistR cI cW hv hist n HR) : HistR cI cW hv hist (n - 1) HR := by
  obtain ⟨a, b, c, d, e, f, g, i, j, k, m, o, p, h, q⟩ := h
  exact ⟨a, b, c, d, e, f, g, i, j, k, m, o, p, by omega, fun x hx => q x (by omega)⟩
set_option maxHeartbeats 4000000 in
set_option maxRecDepth 100000 in
theorem m_setting (l : Launch) (D : va_G) (cI cZ cW cJ : ClassId) (A : Nat → Prop) (X : va_W) (xo hi sn tx f mm re ro : Nat) (mk rk : Bool) (w wb ws : Nat) (wc wr wl ww wf : Int32) (wse : Nat → Int32) (xk : Int32) (hpe : ∀ E : String, ¬ (E = "java/lang/IndexOutOfBoundsException" ∧ isSetX xk = false)) : Met l yX8_setting wsX8_setting ({ frames := 1, cells := 0, slots := 0, locals := 21 }) (va_Pc [.ref xo, .int xk] (wd D (tyL cI cZ cW cJ) A (oX8 xo w hi sn tx f mm re ro (bI mk) (bI rk) :: oX7 w wb ws wc wr wl ww wf :: aI cI ws 3 wse :: X))) (va_Qi (fun (r : Int32) (u : Unit) => isSetX xk = true ∧ r = wse xk.toNatClampNeg) (fun (u : Unit) t => wq D A (oX8 xo w hi sn tx f mm re ro (bI mk) (bI rk) :: oX7 w wb ws wc wr wl ww wf :: aI cI ws 3 wse :: X) t) A) 0 0 A := by
  refine Met.ofW (cc := cX8_setting) (maxL := 2) (ret := (some .int)) (by decide) rfl ?_
  intro p e s m args below meth c s₁ B hml hv
  obtain ⟨rfl, hsz9, hP, hK, hD, hN⟩ := hv
  have hx := B.exec
  have hb := B.bytes
  have hr := B.returns
  have hts := atoms_spec (ws := wsX8_setting) B.pre
  have hown : s.vm.findClass RX8 = some m.cls := findClass_of_methodNamed B.named
  have hlocks := B.notSynchronized
  have CF : CallFix p m c cX8_setting 2 s _ wsX8_setting RX8 := ⟨hx, hb, hml, hown, hts⟩
  have hA : ∀ q : Nat, s.heap.size ≤ q → A q := hsz9
  have hS : va_S A s.heap s.heap [] := va_S.rf
  have hiX7 : ∀ w ∈ u_ws RX7 TX7 7, w ∈ wsX8_setting := fun _ h => List.mem_cons_of_mem _ (List.mem_append_left _ (List.mem_append_right _ (h)))
  have hiX8 : ∀ w ∈ u_ws RX8 TX8 10, w ∈ wsX8_setting := fun _ h => List.mem_cons_of_mem _ (List.mem_append_left _ (List.mem_append_left _ (List.mem_append_right _ (h))))
  have hl := lv_entry ([.ref xo, .int xk]) (n := 2) (Nat.le_of_ble_eq_true rfl)
  rw [lg_entry_eq]
  generalize (lg_sl ([.ref xo, .int xk]) ++ List.replicate (2 - (lg_sl ([.ref xo, .int xk])).length) Slot.unset).toArray = ls at hl ⊢
  have hl : lv_has ls 2 [(0, .ref xo), (1, .int xk)] := hl
  show W p l e ({ frames := 1, cells := 0, slots := 0, locals := 21 } : Room) s m (([.ref xo, .int xk] : List Value).toArray) below meth c s.heap [] 0 0 (MQ below (va_Qi (fun (r : Int32) (u : Unit) => isSetX xk = true ∧ r = wse xk.toNatClampNeg) (fun (u : Unit) t => wq D A (oX8 xo w hi sn tx f mm re ro (bI mk) (bI rk) :: oX7 w wb ws wc wr wl ww wf :: aI cI ws 3 wse :: X) t) A) (([.ref xo, .int xk] : List Value).toArray) s 0 0 A) (F0 m 0 ls [])
  refine lv_iload_n hx hb dX8_setting_0 rfl (lv_at hl 1 rfl) ?_
  refine cS_i CF hK hN hA hS (cut_of 3 [0, 1, 2] hP hD rfl rfl rfl) (m_isSetting l D cI cZ cW cJ A (oX8 xo w hi sn tx f mm re ro (bI mk) (bI rk) :: oX7 w wb ws wc wr wl ww wf :: aI cI ws 3 wse :: X) xk) (va_cwS 1 hts gX8_setting_X8_isSetting rfl rfl rfl (by decide +kernel) ⟨Nat.le_of_ble_eq_true rfl, Nat.le_of_ble_eq_true rfl⟩) (As := [.int xk]) (rest := []) rfl hl.1 rfl (Nat.le_of_ble_eq_true rfl) dX8_setting_1 ⟨Nat.le_of_ble_eq_true rfl, Nat.le_of_ble_eq_true rfl⟩ (fun r_1 _ H locs hq hP hD hS => ?_)
  have hq : r_1 = bI (isSetX xk) := hq
  subst hq
  have hP : va_P D vwCl (oX8 xo w hi sn tx f mm re ro (bI mk) (bI rk) :: oX7 w wb ws wc wr wl ww wf :: aI cI ws 3 wse :: X) H := pm_P hP 3 [0, 1, 2] rfl
  have hD : va_D A (oX8 xo w hi sn tx f mm re ro (bI mk) (bI rk) :: oX7 w wb ws wc wr wl ww wf :: aI cI ws 3 wse :: X) := pm_D hD 3 [0, 1, 2] rfl rfl rfl
  refine lv_if_ne (tgt := 17) hx hb dX8_setting_4 (by decide) (fun c_4 => ?_) (fun c_4 => ?_)
  · obtain ⟨ks, hks, e1⟩ := isSet_nI (bt_c c_4)
    refine lv_aload_n hx hb dX8_setting_17 rfl (lv_at hl 0 rfl) ?_
    refine va_get (D := D) (ci := 8) (v := .ref w) (C := RX8) (T := TX8) (N := 10) hx hb hts hiX8 hown hK hP 0 rfl rfl 0 (by decide) (hts (.fieldLink RX8 12 "LedgeLeaps" "world" "LLedgeLeaps$World;") (List.mem_of_getElem? (i := 3) rfl)) (fun _ h9 => h9) rfl dX8_setting_18 ?_
    refine va_get (D := D) (ci := 7) (v := .ref ws) (C := RX7) (T := TX7) (N := 7) hx hb hts hiX7 hown hK hP 1 rfl rfl 1 (by decide) (hts (.fieldLink RX8 103 "LedgeLeaps$World" "settings" "[I") (List.mem_of_getElem? (i := 4) rfl)) (fun _ h9 => h9) rfl dX8_setting_21 ?_
    refine lv_iload_n hx hb dX8_setting_24 rfl (lv_at hl 1 rfl) ?_
    refine top_i (y := (nI ks)) e1 ?_
    refine cS_i CF hK hN hA hS (cut_of 3 [2, 0, 1] hP hD rfl rfl rfl) (m_at l D cI cZ cW cJ A (oX8 xo w hi sn tx f mm re ro (bI mk) (bI rk) :: oX7 w wb ws wc wr wl ww wf :: X) ws 3 wse (nI ks) (by decide)) (va_cwS 2 hts gX8_setting_X8_at rfl rfl rfl (by decide +kernel) ⟨Nat.le_of_ble_eq_true rfl, Nat.le_of_ble_eq_true rfl⟩) (As := [.ref ws, .int (nI ks)]) (rest := []) rfl hl.1 rfl (Nat.le_of_ble_eq_true rfl) dX8_setting_25 ⟨Nat.le_of_ble_eq_true rfl, Nat.le_of_ble_eq_true rfl⟩ (fun r_25 _ H locs hq hP hD hS => ?_)
    have hq : r_25 = atX 3 wse (nI ks) := hq
    subst hq
    have hP : va_P D vwCl (oX8 xo w hi sn tx f mm re ro (bI mk) (bI rk) :: oX7 w wb ws wc wr wl ww wf :: aI cI ws 3 wse :: X) H := pm_P hP 3 [1, 2, 0] rfl
    have hD : va_D A (oX8 xo w hi sn tx f mm re ro (bI mk) (bI rk) :: oX7 w wb ws wc wr wl ww wf :: aI cI ws 3 wse :: X) := pm_D hD 3 [1, 2, 0] rfl rfl rfl
    refine top_i (y := (wse ks)) (at_nI hks (by decide)) ?_
    exact W.iret (v := (wse ks)) hx hb hr (fun t9 ht9 hW9 => ⟨⟨(wse ks), (), rfl, by rw [e1, nI_clamp (by omega)]; rw [← e1]; exact ⟨bt_c c_4, rfl⟩, by rw [ht9]; exact hP, hD⟩, hS.F ht9⟩) hS.2.2 dX8_setting_28
  · exact (hpe "java/lang/IndexOutOfBoundsException" (⟨rfl, bf_c c_4⟩)).elim
set_option maxHeartbeats 4000000 in
set_option maxRecDepth 100000 in
theorem m_arc (l : Launch) (D : va_G) (cI cZ cW cJ : ClassId) (A : Nat → Prop) (X : va_W) (xo hi sn tx f mm re ro : Nat) (mk rk : Bool) (w wb ws : Nat) (wc wr wl ww wf : Int32) (wse : Nat → Int32) (xt xk : Int32) (hpe : ∀ E : String, ¬ (E = "java/lang/IllegalArgumentException" ∧ (xt < 0 ∨ 30 < xt ∨ xk < 0 ∨ 1 < xk))) : Met l yX8_arc wsX8_arc ({ frames := 3, cells := 0, slots := 0, locals := 62 }) (va_Pc [.ref xo, .int xt, .int xk] (wd D (tyL cI cZ cW cJ) A (oX8 xo w hi sn tx f mm re ro (bI mk) (bI rk) :: oX7 w wb ws wc wr wl ww wf :: aI cI ws 3 wse :: X))) (va_Qi (fun (r : Int32) (u : Unit) => ∃ t k : Nat, t ≤ 30 ∧ k ≤ 1 ∧ xt = nI t ∧ xk = nI k ∧ r = 200 + (if nI k = 0 then hbtF (wse 1) t (wse 0) 0 else haoF (nI t) (wse 0) (wse 1))) (fun (u : Unit) t => wq D A (oX8 xo w hi sn tx f mm re ro (bI mk) (bI rk) :: oX7 w wb ws wc wr wl ww wf :: aI cI ws 3 wse :: X) t) A) 0 0 A := by
  refine Met.ofW (cc := cX8_arc) (maxL := 3) (ret := (some .int)) (by decide) rfl ?_
  intro p e s m args below meth c s₁ B hml hv
  obtain ⟨rfl, hsz9, hP, hK, hD, hN⟩ := hv
  have hx := B.exec
  have hb := B.bytes
  have hr := B.returns
  have hts := atoms_spec (ws := wsX8_arc) B.pre
  have hown : s.vm.findClass RX8 = some m.cls := findClass_of_methodNamed B.named
  have hlocks := B.notSynchronized
  have CF : CallFix p m c cX8_arc 3 s _ wsX8_arc RX8 := ⟨hx, hb, hml, hown, hts⟩
  have hA : ∀ q : Nat, s.heap.size ≤ q → A q := hsz9
  have hS : va_S A s.heap s.heap [] := va_S.rf
  have hl := lv_entry ([.ref xo, .int xt, .int xk]) (n := 3) (Nat.le_of_ble_eq_true rfl)
  rw [lg_entry_eq]
  generalize (lg_sl ([.ref xo, .int xt, .int xk]) ++ List.replicate (3 - (lg_sl ([.ref xo, .int xt, .int xk])).length) Slot.unset).toArray = ls at hl ⊢
  have hl : lv_has ls 3 [(0, .ref xo), (1, .int xt), (2, .int xk)] := hl
  show W p l e ({ frames := 3, cells := 0, slots := 0, locals := 62 } : Room) s m (([.ref xo, .int xt, .int xk] : List Value).toArray) below meth c s.heap [] 0 0 (MQ below (va_Qi (fun (r : Int32) (u : Unit) => ∃ t k : Nat, t ≤ 30 ∧ k ≤ 1 ∧ xt = nI t ∧ xk = nI k ∧ r = 200 + (if nI k = 0 then hbtF (wse 1) t (wse 0) 0 else haoF (nI t) (wse 0) (wse 1))) (fun (u : Unit) t => wq D A (oX8 xo w hi sn tx f mm re ro (bI mk) (bI rk) :: oX7 w wb ws wc wr wl ww wf :: aI cI ws 3 wse :: X) t) A) (([.ref xo, .int xt, .int xk] : List Value).toArray) s 0 0 A) (F0 m 0 ls [])
  refine lv_iload_n hx hb dX8_arc_0 rfl (lv_at hl 1 rfl) ?_
  refine lv_if_lt (tgt := 19) hx hb dX8_arc_1 (by decide) (fun c_1 => ?_) (fun c_1 => ?_)
  · exact (hpe "java/lang/IllegalArgumentException" (⟨rfl, Or.inl c_1⟩)).elim
  · refine lv_iload_n hx hb dX8_arc_4 rfl (lv_at hl 1 rfl) ?_
    refine lv_bipush (v := 30) hx hb dX8_arc_5 (by decide) ?_
    refine lv_icmp_gt (tgt := 19) hx hb dX8_arc_7 (by decide) (fun c_7 => ?_) (fun c_7 => ?_)
    · exact (hpe "java/lang/IllegalArgumentException" (⟨rfl, Or.inr (Or.inl c_7)⟩)).elim
    · refine lv_iload_n hx hb dX8_arc_10 rfl (lv_at hl 2 rfl) ?_
      refine lv_if_lt (tgt := 19) hx hb dX8_arc_11 (by decide) (fun c_11 => ?_) (fun c_11 => ?_)
      · exact (hpe "java/lang/IllegalArgumentException" (⟨rfl, Or.inr (Or.inr (Or.inl c_11))⟩)).elim
      · refine lv_iload_n hx hb dX8_arc_14 rfl (lv_at hl 2 rfl) ?_
        refine lv_iconst (v := 1) hx hb dX8_arc_15 (by decide) ?_
        refine lv_icmp_le (tgt := 29) hx hb dX8_arc_16 (by decide) (fun c_16 => ?_) (fun c_16 => ?_)
        · obtain ⟨t, ht, e1⟩ := rng_nI2 (n := 30) (by decide) c_1 (Int32.not_lt.mpr (Int32.not_lt.mp c_7))
          obtain ⟨k, hk, e2⟩ := rng_nI2 (n := 1) (by decide) c_11 (Int32.not_lt.mpr c_16)
          refine lv_aload_n hx hb dX8_arc_29 rfl (lv_at hl 0 rfl) ?_
          refine lv_iload_n hx hb dX8_arc_30 rfl (lv_at hl 1 rfl) ?_
          refine top_i (y := (nI t)) e1 ?_
          refine lv_iload_n hx hb dX8_arc_31 rfl (lv_at hl 2 rfl) ?_
          refine top_i (y := (nI k)) e2 ?_
          refine cV_i CF hK hN hA hS (cut_of 3 [0, 1, 2] hP hD rfl rfl rfl) (m_arcNumber l D cI cZ cW cJ A (X) xo hi sn tx f mm re ro mk rk w wb ws wc wr wl ww wf wse t (nI k) (by omega)) (cwV 2 hts gX8_arc_X8_arcNumber rfl rfl rfl (by decide +kernel) ⟨Nat.le_of_ble_eq_true rfl, Nat.le_of_ble_eq_true rfl⟩) (As := [.int (nI t), .int (nI k)]) (rest := []) (ci := 8) (q0 := 0) rfl rfl rfl hl.1 rfl (Nat.le_of_ble_eq_true rfl) dX8_arc_32 ⟨Nat.le_of_ble_eq_true rfl, Nat.le_of_ble_eq_true rfl⟩ (fun r_32 _ H locs hq hP hD hS => ?_)
          have hq : r_32 = 200 + (if (nI k) = 0 then hbtF (wse 1) t (wse 0) 0 else haoF (nI t) (wse 0) (wse 1)) := hq
          subst hq
          have hP : va_P D vwCl (oX8 xo w hi sn tx f mm re ro (bI mk) (bI rk) :: oX7 w wb ws wc wr wl ww wf :: aI cI ws 3 wse :: X) H := pm_P hP 3 [0, 1, 2] rfl
          have hD : va_D A (oX8 xo w hi sn tx f mm re ro (bI mk) (bI rk) :: oX7 w wb ws wc wr wl ww wf :: aI cI ws 3 wse :: X) := pm_D hD 3 [0, 1, 2] rfl rfl rfl
          exact W.iret (v := (200 + (if (nI k) = 0 then hbtF (wse 1) t (wse 0) 0 else haoF (nI t) (wse 0) (wse 1)))) hx hb hr (fun t9 ht9 hW9 => ⟨⟨(200 + (if (nI k) = 0 then hbtF (wse 1) t (wse 0) 0 else haoF (nI t) (wse 0) (wse 1))), (), rfl, ⟨t, k, ht, hk, e1, e2, rfl⟩, by rw [ht9]; exact hP, hD⟩, hS.F ht9⟩) hS.2.2 dX8_arc_35
        · exact (hpe "java/lang/IllegalArgumentException" (⟨rfl, Or.inr (Or.inr (Or.inr (Int32.not_le.mp c_16)))⟩)).elim
set_option maxHeartbeats 4000000 in
set_option maxRecDepth 100000 in
theorem m_ifLeapt (l : Launch) (D : va_G) (cI cZ cW cJ : ClassId) (A : Nat → Prop) (X : va_W) (xo hi sn tx f mm re ro : Nat) (mk rk : Bool) (w wb ws : Nat) (wc wr wl ww wf : Int32) (wbl wse : Nat → Int32) (fc fr ft fo fm fs fi : Int32) (xc xr xd xu xk : Int32) (hpe : ∀ E : String, ¬ ((E = "java/lang/IndexOutOfBoundsException" ∧ isCellX xc xr = false) ∨ (E = "java/lang/IllegalArgumentException" ∧ isCellX xc xr = true ∧ (isSideX xd = false ∨ isRunX xu = false ∨ xk < 0 ∨ 5 ≤ xk)))) : Met l yX8_ifLeapt wsX8_ifLeapt ({ frames := 4, cells := 0, slots := 0, locals := 96 }) (va_Pc [.ref xo, .int xc, .int xr, .int xd, .int xu, .int xk] (wd D (tyL cI cZ cW cJ) A (oX8 xo w hi sn tx f mm re ro (bI mk) (bI rk) :: oX7 w wb ws wc wr wl ww wf :: aI cI wb 10 wbl :: aI cI ws 3 wse :: oX0 f fc fr ft fo fm fs fi :: X))) (va_Qi (fun (r : Int32) (u : Int32 × Int32 × Int32 × Int32 × Int32 × Int32 × Int32) => isCellX xc xr = true ∧ isSideX xd = true ∧ isRunX xu = true ∧ ∃ k : Nat, k < 5 ∧ xk = nI k ∧ r = (if grB (blkX wbl) xc xr xd < xu then -1 else leapF (flyF (blkX wbl) xd (wse 1) (wse 2) 100 xc xr 0 xr false (xu + 1) (wse 0)) k)) (fun (u : Int32 × Int32 × Int32 × Int32 × Int32 × Int32 × Int32) t => wq D A (oX8 xo w hi sn tx f mm re ro (bI mk) (bI rk) :: oX7 w wb ws wc wr wl ww wf :: aI cI wb 10 wbl :: aI cI ws 3 wse :: oX0 f u.1 u.2.1 u.2.2.1 u.2.2.2.1 u.2.2.2.2.1 u.2.2.2.2.2.1 u.2.2.2.2.2.2 :: X) t) A) 0 0 A := by
  refine Met.ofW (cc := cX8_ifLeapt) (maxL := 6) (ret := (some .int)) (by decide) rfl ?_
  intro p e s m args below meth c s₁ B hml hv
  obtain ⟨rfl, hsz9, hP, hK, hD, hN⟩ := hv
  have hx := B.exec
  have hb := B.bytes
  have hr := B.returns
  have hts := atoms_spec (ws := wsX8_ifLeapt) B.pre
  have hown : s.vm.findClass RX8 = some m.cls := findClass_of_methodNamed B.named
  have hlocks := B.notSynchronized
  have CF : CallFix p m c cX8_ifLeapt 6 s _ wsX8_ifLeapt RX8 := ⟨hx, hb, hml, hown, hts⟩
  have hA : ∀ q : Nat, s.heap.size ≤ q → A q := hsz9
  have hS : va_S A s.heap s.heap [] := va_S.rf
  have hl := lv_entry ([.ref xo, .int xc, .int xr, .int xd, .int xu, .int xk]) (n := 6) (Nat.le_of_ble_eq_true rfl)
  rw [lg_entry_eq]
  generalize (lg_sl ([.ref xo, .int xc, .int xr, .int xd, .int xu, .int xk]) ++ List.replicate (6 - (lg_sl ([.ref xo, .int xc, .int xr, .int xd, .int xu, .int xk])).length) Slot.unset).toArray = ls at hl ⊢
  have hl : lv_has ls 6 [(0, .ref xo), (1, .int xc), (2, .int xr), (3, .int xd), (4, .int xu), (5, .int xk)] := hl
  show W p l e ({ frames := 4, cells := 0, slots := 0, locals := 96 } : Room) s m (([.ref xo, .int xc, .int xr, .int xd, .int xu, .int xk] : List Value).toArray) below meth c s.heap [] 0 0 (MQ below (va_Qi (fun (r : Int32) (u : Int32 × Int32 × Int32 × Int32 × Int32 × Int32 × Int32) => isCellX xc xr = true ∧ isSideX xd = true ∧ isRunX xu = true ∧ ∃ k : Nat, k < 5 ∧ xk = nI k ∧ r = (if grB (blkX wbl) xc xr xd < xu then -1 else leapF (flyF (blkX wbl) xd (wse 1) (wse 2) 100 xc xr 0 xr false (xu + 1) (wse 0)) k)) (fun (u : Int32 × Int32 × Int32 × Int32 × Int32 × Int32 × Int32) t => wq D A (oX8 xo w hi sn tx f mm re ro (bI mk) (bI rk) :: oX7 w wb ws wc wr wl ww wf :: aI cI wb 10 wbl :: aI cI ws 3 wse :: oX0 f u.1 u.2.1 u.2.2.1 u.2.2.2.1 u.2.2.2.2.1 u.2.2.2.2.2.1 u.2.2.2.2.2.2 :: X) t) A) (([.ref xo, .int xc, .int xr, .int xd, .int xu, .int xk] : List Value).toArray) s 0 0 A) (F0 m 0 ls [])
  refine lv_iload_n hx hb dX8_ifLeapt_0 rfl (lv_at hl 1 rfl) ?_
  refine lv_iload_n hx hb dX8_ifLeapt_1 rfl (lv_at hl 2 rfl) ?_
  refine cS_i CF hK hN hA hS (cut_of 5 [0, 1, 2, 3, 4] hP hD rfl rfl rfl) (m_isCell l D cI cZ cW cJ A (oX8 xo w hi sn tx f mm re ro (bI mk) (bI rk) :: oX7 w wb ws wc wr wl ww wf :: aI cI wb 10 wbl :: aI cI ws 3 wse :: oX0 f fc fr ft fo fm fs fi :: X) xc xr) (va_cwS 2 hts gX8_ifLeapt_X8_isCell rfl rfl rfl (by decide +kernel) ⟨Nat.le_of_ble_eq_true rfl, Nat.le_of_ble_eq_true rfl⟩) (As := [.int xc, .int xr]) (rest := []) rfl hl.1 rfl (Nat.le_of_ble_eq_true rfl) dX8_ifLeapt_2 ⟨Nat.le_of_ble_eq_true rfl, Nat.le_of_ble_eq_true rfl⟩ (fun r_2 _ H locs hq hP hD hS => ?_)
  have hq : r_2 = bI (isCellX xc xr) := hq
  subst hq
  have hP : va_P D vwCl (oX8 xo w hi sn tx f mm re ro (bI mk) (bI rk) :: oX7 w wb ws wc wr wl ww wf :: aI cI wb 10 wbl :: aI cI ws 3 wse :: oX0 f fc fr ft fo fm fs fi :: X) H := pm_P hP 5 [0, 1, 2, 3, 4] rfl
  have hD : va_D A (oX8 xo w hi sn tx f mm re ro (bI mk) (bI rk) :: oX7 w wb ws wc wr wl ww wf :: aI cI wb 10 wbl :: aI cI ws 3 wse :: oX0 f fc fr ft fo fm fs fi :: X) := pm_D hD 5 [0, 1, 2, 3, 4] rfl rfl rfl
  refine lv_if_ne (tgt := 18) hx hb dX8_ifLeapt_5 (by decide) (fun c_5 => ?_) (fun c_5 => ?_)
  · refine lv_iload_n hx hb dX8_ifLeapt_18 rfl (lv_at hl 3 rfl) ?_
    refine cS_i CF hK hN hA hS (cut_of 5 [0, 1, 2, 3, 4] hP hD rfl rfl rfl) (m_isSide l D cI cZ cW cJ A (oX8 xo w hi sn tx f mm re ro (bI mk) (bI rk) :: oX7 w wb ws wc wr wl ww wf :: aI cI wb 10 wbl :: aI cI ws 3 wse :: oX0 f fc fr ft fo fm fs fi :: X) xd) (va_cwS 1 hts gX8_ifLeapt_X8_isSide rfl rfl rfl (by decide +kernel) ⟨Nat.le_of_ble_eq_true rfl, Nat.le_of_ble_eq_true rfl⟩) (As := [.int xd]) (rest := []) rfl hl.1 rfl (Nat.le_of_ble_eq_true rfl) dX8_ifLeapt_19 ⟨Nat.le_of_ble_eq_true rfl, Nat.le_of_ble_eq_true rfl⟩ (fun r_19 _ H locs hq hP hD hS => ?_)
    have hq : r_19 = bI (isSideX xd) := hq
    subst hq
    have hP : va_P D vwCl (oX8 xo w hi sn tx f mm re ro (bI mk) (bI rk) :: oX7 w wb ws wc wr wl ww wf :: aI cI wb 10 wbl :: aI cI ws 3 wse :: oX0 f fc fr ft fo fm fs fi :: X) H := pm_P hP 5 [0, 1, 2, 3, 4] rfl
    have hD : va_D A (oX8 xo w hi sn tx f mm re ro (bI mk) (bI rk) :: oX7 w wb ws wc wr wl ww wf :: aI cI wb 10 wbl :: aI cI ws 3 wse :: oX0 f fc fr ft fo fm fs fi :: X) := pm_D hD 5 [0, 1, 2, 3, 4] rfl rfl rfl
    refine lv_if_eq (tgt := 44) hx hb dX8_ifLeapt_22 (by decide) (fun c_22 => ?_) (fun c_22 => ?_)
    · exact (hpe "java/lang/IllegalArgumentException" (Or.inr ⟨rfl, bt_c c_5, Or.inl (bf_c c_22)⟩)).elim
    · refine lv_iload hx hb dX8_ifLeapt_25 (lv_at hl 4 rfl) ?_
      refine cS_i CF hK hN hA hS (cut_of 5 [0, 1, 2, 3, 4] hP hD rfl rfl rfl) (m_isRunUp l D cI cZ cW cJ A (oX8 xo w hi sn tx f mm re ro (bI mk) (bI rk) :: oX7 w wb ws wc wr wl ww wf :: aI cI wb 10 wbl :: aI cI ws 3 wse :: oX0 f fc fr ft fo fm fs fi :: X) xu) (va_cwS 1 hts gX8_ifLeapt_X8_isRunUp rfl rfl rfl (by decide +kernel) ⟨Nat.le_of_ble_eq_true rfl, Nat.le_of_ble_eq_true rfl⟩) (As := [.int xu]) (rest := []) rfl hl.1 rfl (Nat.le_of_ble_eq_true rfl) dX8_ifLeapt_27 ⟨Nat.le_of_ble_eq_true rfl, Nat.le_of_ble_eq_true rfl⟩ (fun r_27 _ H locs hq hP hD hS => ?_)
      have hq : r_27 = bI (isRunX xu) := hq
      subst hq
      have hP : va_P D vwCl (oX8 xo w hi sn tx f mm re ro (bI mk) (bI rk) :: oX7 w wb ws wc wr wl ww wf :: aI cI wb 10 wbl :: aI cI ws 3 wse :: oX0 f fc fr ft fo fm fs fi :: X) H := pm_P hP 5 [0, 1, 2, 3, 4] rfl
      have hD : va_D A (oX8 xo w hi sn tx f mm re ro (bI mk) (bI rk) :: oX7 w wb ws wc wr wl ww wf :: aI cI wb 10 wbl :: aI cI ws 3 wse :: oX0 f fc fr ft fo fm fs fi :: X) := pm_D hD 5 [0, 1, 2, 3, 4] rfl rfl rfl
      refine lv_if_eq (tgt := 44) hx hb dX8_ifLeapt_30 (by decide) (fun c_30 => ?_) (fun c_30 => ?_)
      · exact (hpe "java/lang/IllegalArgumentException" (Or.inr ⟨rfl, bt_c c_5, Or.inr (Or.inl (bf_c c_30))⟩)).elim
      · refine lv_iload hx hb dX8_ifLeapt_33 (lv_at hl 5 rfl) ?_
        refine lv_if_lt (tgt := 44) hx hb dX8_ifLeapt_35 (by decide) (fun c_35 => ?_) (fun c_35 => ?_)
        · exact (hpe "java/lang/IllegalArgumentException" (Or.inr ⟨rfl, bt_c c_5, Or.inr (Or.inr (Or.inl c_35))⟩)).elim
        · refine lv_iload hx hb dX8_ifLeapt_38 (lv_at hl 5 rfl) ?_
          refine lv_iconst (v := 5) hx hb dX8_ifLeapt_40 (by decide) ?_
          refine lv_icmp_lt (tgt := 54) hx hb dX8_ifLeapt_41 (by decide) (fun c_41 => ?_) (fun c_41 => ?_)
          · obtain ⟨k, hk, e1⟩ := rng_nI (n := 5) (by decide) c_35 c_41
            refine lv_aload_n hx hb dX8_ifLeapt_54 rfl (lv_at hl 0 rfl) ?_
            refine lv_iload_n hx hb dX8_ifLeapt_55 rfl (lv_at hl 1 rfl) ?_
            refine lv_iload_n hx hb dX8_ifLeapt_56 rfl (lv_at hl 2 rfl) ?_
            refine lv_iload_n hx hb dX8_ifLeapt_57 rfl (lv_at hl 3 rfl) ?_
            refine lv_iload hx hb dX8_ifLeapt_58 (lv_at hl 4 rfl) ?_
            refine lv_iload hx hb dX8_ifLeapt_60 (lv_at hl 5 rfl) ?_
            refine top_i (y := (nI k)) e1 ?_
            refine cV_i CF hK hN hA hS (cut_of 5 [0, 1, 2, 3, 4] hP hD rfl rfl rfl) (m_leapNumber l D cI cZ cW cJ A (X) xo hi sn tx f mm re ro mk rk w wb ws wc wr wl ww wf wbl wse fc fr ft fo fm fs fi xc xr xd xu k hk) (cwV 5 hts gX8_ifLeapt_X8_leapNumber rfl rfl rfl (by decide +kernel) ⟨Nat.le_of_ble_eq_true rfl, Nat.le_of_ble_eq_true rfl⟩) (As := [.int xc, .int xr, .int xd, .int xu, .int (nI k)]) (rest := []) (ci := 8) (q0 := 0) rfl rfl rfl hl.1 rfl (Nat.le_of_ble_eq_true rfl) dX8_ifLeapt_62 ⟨Nat.le_of_ble_eq_true rfl, Nat.le_of_ble_eq_true rfl⟩ (fun r_62 u_62 H locs hq hP hD hS => ?_)
            have hq_62 : r_62 = (if grB (blkX wbl) xc xr xd < xu then -1 else leapF (flyF (blkX wbl) xd (wse 1) (wse 2) 100 xc xr 0 xr false (xu + 1) (wse 0)) k) := hq
            have hP : va_P D vwCl (oX8 xo w hi sn tx f mm re ro (bI mk) (bI rk) :: oX7 w wb ws wc wr wl ww wf :: aI cI wb 10 wbl :: aI cI ws 3 wse :: oX0 f u_62.1 u_62.2.1 u_62.2.2.1 u_62.2.2.2.1 u_62.2.2.2.2.1 u_62.2.2.2.2.2.1 u_62.2.2.2.2.2.2 :: X) H := pm_P hP 5 [0, 1, 2, 3, 4] rfl
            have hD : va_D A (oX8 xo w hi sn tx f mm re ro (bI mk) (bI rk) :: oX7 w wb ws wc wr wl ww wf :: aI cI wb 10 wbl :: aI cI ws 3 wse :: oX0 f u_62.1 u_62.2.1 u_62.2.2.1 u_62.2.2.2.1 u_62.2.2.2.2.1 u_62.2.2.2.2.2.1 u_62.2.2.2.2.2.2 :: X) := pm_D hD 5 [0, 1, 2, 3, 4] rfl rfl rfl
            exact W.iret (v := r_62) hx hb hr (fun t9 ht9 hW9 => ⟨⟨r_62, u_62, rfl, ⟨bt_c c_5, bt_c c_22, bt_c c_30, k, hk, e1, hq_62⟩, by rw [ht9]; exact hP, hD⟩, hS.F ht9⟩) hS.2.2 dX8_ifLeapt_65
          · exact (hpe "java/lang/IllegalArgumentException" (Or.inr ⟨rfl, bt_c c_5, Or.inr (Or.inr (Or.inr (Int32.not_lt.mp c_41)))⟩)).elim
  · exact (hpe "java/lang/IndexOutOfBoundsException" (Or.inl ⟨rfl, bf_c c_5⟩)).elim
