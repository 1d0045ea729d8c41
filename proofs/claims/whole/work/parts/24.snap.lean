set_option maxHeartbeats 4000000 in
set_option maxRecDepth 100000 in
theorem m_restore_1 (l : Launch) (D : va_G) (cI cZ cW cJ : ClassId) (A : Nat → Prop) (X : va_W) (hi hv : Nat) (w wb ws : Nat) (wc wr wl ww wf : Int32) (wbl wse : Nat → Int32) (HR : va_W) (hist : Nat → KS) (hR : HistR cI cW hv hist 1 HR) : Met l yX1_restoreLatest wsX1_restoreLatest ({ frames := 2, cells := 0, slots := 0, locals := 61 }) (va_Pc [.ref hi, .ref w] (wd D (tyL cI cZ cW cJ) A (oX1 hi (nI 1) hv :: oX7 w wb ws wc wr wl ww wf :: aI cI wb 10 wbl :: aI cI ws 3 wse :: (X ++ HR)))) (va_Qv (fun (u : Int32 × Int32 × Int32 × Int32 × Int32 × (Nat → Int32) × (Nat → Int32)) => AbsX (hist 0) u.2.2.2.2.2.1 u.2.2.2.2.2.2 u.1 u.2.1 u.2.2.1 u.2.2.2.1 u.2.2.2.2.1) (fun (u : Int32 × Int32 × Int32 × Int32 × Int32 × (Nat → Int32) × (Nat → Int32)) t => wq D A (oX1 hi (nI 0) hv :: oX7 w wb ws u.1 u.2.1 u.2.2.1 u.2.2.2.1 u.2.2.2.2.1 :: aI cI wb 10 u.2.2.2.2.2.1 :: aI cI ws 3 u.2.2.2.2.2.2 :: (X ++ HR)) t) A) 0 0 A := by
  refine Met.ofW (cc := cX1_restoreLatest) (maxL := 3) (ret := none) (by decide) rfl ?_
  intro p e s m args below meth c s₁ B hml hv
  obtain ⟨rfl, hsz9, hP, hK, hD, hN⟩ := hv
  have hx := B.exec
  have hb := B.bytes
  have hr := B.returns
  have hts := atoms_spec (ws := wsX1_restoreLatest) B.pre
  have hown : s.vm.findClass RX1 = some m.cls := findClass_of_methodNamed B.named
  have hlocks := B.notSynchronized
  have CF : CallFix p m c cX1_restoreLatest 3 s _ wsX1_restoreLatest RX1 := ⟨hx, hb, hml, hown, hts⟩
  have hA : ∀ q : Nat, s.heap.size ≤ q → A q := hsz9
  have hS : va_S A s.heap s.heap [] := va_S.rf
  have hiX1 : ∀ w ∈ u_ws RX1 TX1 2, w ∈ wsX1_restoreLatest := fun _ h => List.mem_cons_of_mem _ (List.mem_append_left _ (List.mem_append_right _ (h)))
  have hl := lv_entry ([.ref hi, .ref w]) (n := 3) (Nat.le_of_ble_eq_true rfl)
  rw [lg_entry_eq]
  generalize (lg_sl ([.ref hi, .ref w]) ++ List.replicate (3 - (lg_sl ([.ref hi, .ref w])).length) Slot.unset).toArray = ls at hl ⊢
  have hl : lv_has ls 3 [(0, .ref hi), (1, .ref w)] := hl
  show W p l e ({ frames := 2, cells := 0, slots := 0, locals := 61 } : Room) s m (([.ref hi, .ref w] : List Value).toArray) below meth c s.heap [] 0 0 (MQ below (va_Qv (fun (u : Int32 × Int32 × Int32 × Int32 × Int32 × (Nat → Int32) × (Nat → Int32)) => AbsX (hist 0) u.2.2.2.2.2.1 u.2.2.2.2.2.2 u.1 u.2.1 u.2.2.1 u.2.2.2.1 u.2.2.2.2.1) (fun (u : Int32 × Int32 × Int32 × Int32 × Int32 × (Nat → Int32) × (Nat → Int32)) t => wq D A (oX1 hi (nI 0) hv :: oX7 w wb ws u.1 u.2.1 u.2.2.1 u.2.2.2.1 u.2.2.2.2.1 :: aI cI wb 10 u.2.2.2.2.2.1 :: aI cI ws 3 u.2.2.2.2.2.2 :: (X ++ HR)) t) A) (([.ref hi, .ref w] : List Value).toArray) s 0 0 A) (F0 m 0 ls [])
  obtain ⟨svf, pa, pb, pc, zb, zs, zc, zr, zl, zw, zf, rfl, hsv, hn6, hH⟩ := hR
  have hPD := blk_front (w := [oX1 hi 1 hv, oX7 w wb ws wc wr wl ww wf, aI cI wb 10 wbl, aI cI ws 3 wse]) hP hD
  have hP : va_P D vwCl (oX1 hi 1 hv :: oX7 w wb ws wc wr wl ww wf :: aI cI wb 10 wbl :: aI cI ws 3 wse :: aW cW hv 6 svf :: oX7 (pa 0) (pb 0) (pc 0) (zc 0) (zr 0) (zl 0) (zw 0) (zf 0) :: aI cI (pb 0) 10 (zb 0) :: aI cI (pc 0) 3 (zs 0) :: oX7 (pa 1) (pb 1) (pc 1) (zc 1) (zr 1) (zl 1) (zw 1) (zf 1) :: aI cI (pb 1) 10 (zb 1) :: aI cI (pc 1) 3 (zs 1) :: oX7 (pa 2) (pb 2) (pc 2) (zc 2) (zr 2) (zl 2) (zw 2) (zf 2) :: aI cI (pb 2) 10 (zb 2) :: aI cI (pc 2) 3 (zs 2) :: oX7 (pa 3) (pb 3) (pc 3) (zc 3) (zr 3) (zl 3) (zw 3) (zf 3) :: aI cI (pb 3) 10 (zb 3) :: aI cI (pc 3) 3 (zs 3) :: oX7 (pa 4) (pb 4) (pc 4) (zc 4) (zr 4) (zl 4) (zw 4) (zf 4) :: aI cI (pb 4) 10 (zb 4) :: aI cI (pc 4) 3 (zs 4) :: oX7 (pa 5) (pb 5) (pc 5) (zc 5) (zr 5) (zl 5) (zw 5) (zf 5) :: aI cI (pb 5) 10 (zb 5) :: aI cI (pc 5) 3 (zs 5) :: X) s.heap := hPD.1
  have hD : va_D A (oX1 hi 1 hv :: oX7 w wb ws wc wr wl ww wf :: aI cI wb 10 wbl :: aI cI ws 3 wse :: aW cW hv 6 svf :: oX7 (pa 0) (pb 0) (pc 0) (zc 0) (zr 0) (zl 0) (zw 0) (zf 0) :: aI cI (pb 0) 10 (zb 0) :: aI cI (pc 0) 3 (zs 0) :: oX7 (pa 1) (pb 1) (pc 1) (zc 1) (zr 1) (zl 1) (zw 1) (zf 1) :: aI cI (pb 1) 10 (zb 1) :: aI cI (pc 1) 3 (zs 1) :: oX7 (pa 2) (pb 2) (pc 2) (zc 2) (zr 2) (zl 2) (zw 2) (zf 2) :: aI cI (pb 2) 10 (zb 2) :: aI cI (pc 2) 3 (zs 2) :: oX7 (pa 3) (pb 3) (pc 3) (zc 3) (zr 3) (zl 3) (zw 3) (zf 3) :: aI cI (pb 3) 10 (zb 3) :: aI cI (pc 3) 3 (zs 3) :: oX7 (pa 4) (pb 4) (pc 4) (zc 4) (zr 4) (zl 4) (zw 4) (zf 4) :: aI cI (pb 4) 10 (zb 4) :: aI cI (pc 4) 3 (zs 4) :: oX7 (pa 5) (pb 5) (pc 5) (zc 5) (zr 5) (zl 5) (zw 5) (zf 5) :: aI cI (pb 5) 10 (zb 5) :: aI cI (pc 5) 3 (zs 5) :: X) := hPD.2
  refine lv_aload_n hx hb dX1_restoreLatest_0 rfl (lv_at hl 0 rfl) ?_
  refine va_get (D := D) (ci := 1) (v := .int 1) (C := RX1) (T := TX1) (N := 2) hx hb hts hiX1 hown hK hP 0 rfl rfl 0 (by decide) (hts (.fieldLink RX1 18 "LedgeLeaps$History" "size" "I") (List.mem_of_getElem? (i := 1) rfl)) (fun _ h9 => h9) rfl dX1_restoreLatest_1 ?_
  have c_4 : ¬ (1 : Int32) ≤ 0 := by decide
  refine lv_if_le (tgt := 30) hx hb dX1_restoreLatest_4 (by decide) (fun q => absurd q c_4) (fun _ => ?_)
  refine lv_aload_n hx hb dX1_restoreLatest_7 rfl (lv_at hl 0 rfl) ?_
  refine va_get (D := D) (ci := 1) (v := .int 1) (C := RX1) (T := TX1) (N := 2) hx hb hts hiX1 hown hK hP 0 rfl rfl 0 (by decide) (hts (.fieldLink RX1 18 "LedgeLeaps$History" "size" "I") (List.mem_of_getElem? (i := 1) rfl)) (fun _ h9 => h9) rfl dX1_restoreLatest_8 ?_
  refine lv_bipush (v := 6) hx hb dX1_restoreLatest_11 (by decide) ?_
  have c_13 : ¬ (6 : Int32) < 1 := by decide
  refine lv_icmp_gt (tgt := 30) hx hb dX1_restoreLatest_13 (by decide) (fun q => absurd q c_13) (fun _ => ?_)
  refine lv_aload_n hx hb dX1_restoreLatest_16 rfl (lv_at hl 0 rfl) ?_
  refine va_get (D := D) (ci := 1) (v := .ref hv) (C := RX1) (T := TX1) (N := 2) hx hb hts hiX1 hown hK hP 0 rfl rfl 1 (by decide) (hts (.fieldLink RX1 11 "LedgeLeaps$History" "saved" "[LLedgeLeaps$World;") (List.mem_of_getElem? (i := 2) rfl)) (fun _ h9 => h9) rfl dX1_restoreLatest_17 ?_
  refine lv_aload_n hx hb dX1_restoreLatest_20 rfl (lv_at hl 0 rfl) ?_
  refine va_get (D := D) (ci := 1) (v := .int 1) (C := RX1) (T := TX1) (N := 2) hx hb hts hiX1 hown hK hP 0 rfl rfl 0 (by decide) (hts (.fieldLink RX1 18 "LedgeLeaps$History" "size" "I") (List.mem_of_getElem? (i := 1) rfl)) (fun _ h9 => h9) rfl dX1_restoreLatest_21 ?_
  refine lv_iconst (v := 1) hx hb dX1_restoreLatest_24 (by decide) ?_
  refine lv_isub hx hb dX1_restoreLatest_25 ?_
  refine top_i (y := 0) (by decide) ?_
  refine va_aldr (v := (pa 0)) hx hb hK hP 4 2 rfl rfl (show ¬ ((0 : Int32) < 0 ∨ 6 ≤ (0 : Int32).toNatClampNeg) by decide) (hsv 0 (by decide)) dX1_restoreLatest_26 ?_
  refine lv_goto (tgt := 31) hx hb dX1_restoreLatest_27 (by decide) ?_
  refine lv_astore_n (lv' := [(2, .ref (pa 0)), (0, .ref hi), (1, .ref w)]) hx hb dX1_restoreLatest_31 rfl hl (by decide) rfl (fun ls hl => ?_)
  refine lv_aload_n hx hb dX1_restoreLatest_32 rfl (lv_at hl 0 rfl) ?_
  refine lv_ifnull hx hb dX1_restoreLatest_33 ?_
  refine lv_aload_n hx hb dX1_restoreLatest_36 rfl (lv_at hl 2 rfl) ?_
  refine lv_aload_n hx hb dX1_restoreLatest_37 rfl (lv_at hl 0 rfl) ?_
  refine cV_v CF hK hN hA hS (cut_of 23 [1, 2, 3, 5, 6, 7, 0, 4, 8, 9, 10, 11, 12, 13, 14, 15, 16, 17, 18, 19, 20, 21, 22] hP hD rfl rfl rfl) (m_becomeLike l D cI cZ cW cJ A (oX1 hi 1 hv :: aW cW hv 6 svf :: oX7 (pa 1) (pb 1) (pc 1) (zc 1) (zr 1) (zl 1) (zw 1) (zf 1) :: aI cI (pb 1) 10 (zb 1) :: aI cI (pc 1) 3 (zs 1) :: oX7 (pa 2) (pb 2) (pc 2) (zc 2) (zr 2) (zl 2) (zw 2) (zf 2) :: aI cI (pb 2) 10 (zb 2) :: aI cI (pc 2) 3 (zs 2) :: oX7 (pa 3) (pb 3) (pc 3) (zc 3) (zr 3) (zl 3) (zw 3) (zf 3) :: aI cI (pb 3) 10 (zb 3) :: aI cI (pc 3) 3 (zs 3) :: oX7 (pa 4) (pb 4) (pc 4) (zc 4) (zr 4) (zl 4) (zw 4) (zf 4) :: aI cI (pb 4) 10 (zb 4) :: aI cI (pc 4) 3 (zs 4) :: oX7 (pa 5) (pb 5) (pc 5) (zc 5) (zr 5) (zl 5) (zw 5) (zf 5) :: aI cI (pb 5) 10 (zb 5) :: aI cI (pc 5) 3 (zs 5) :: X) w wb ws wc wr wl ww wf wbl wse (pa 0) (pb 0) (pc 0) (zc 0) (zr 0) (zl 0) (zw 0) (zf 0) (zb 0) (zs 0)) (cwV 1 hts gX1_restoreLatest_X7_becomeLike rfl rfl rfl (by decide +kernel) ⟨Nat.le_of_ble_eq_true rfl, Nat.le_of_ble_eq_true rfl⟩) (As := [.ref (pa 0)]) (rest := []) (ci := 7) (q0 := 0) rfl rfl rfl hl.1 rfl (Nat.le_of_ble_eq_true rfl) dX1_restoreLatest_38 ⟨Nat.le_of_ble_eq_true rfl, Nat.le_of_ble_eq_true rfl⟩ (fun u_38 H locs hq hP hD hS => ?_)
  have hq_38 : (∀ j, j < 10 → u_38.1 j = (zb 0) j) ∧ (∀ j, j < 3 → u_38.2 j = (zs 0) j) := hq
  have hP : va_P D vwCl (oX1 hi 1 hv :: oX7 w wb ws (zc 0) (zr 0) (zl 0) (zw 0) (zf 0) :: aI cI wb 10 u_38.1 :: aI cI ws 3 u_38.2 :: aW cW hv 6 svf :: oX7 (pa 0) (pb 0) (pc 0) (zc 0) (zr 0) (zl 0) (zw 0) (zf 0) :: aI cI (pb 0) 10 (zb 0) :: aI cI (pc 0) 3 (zs 0) :: oX7 (pa 1) (pb 1) (pc 1) (zc 1) (zr 1) (zl 1) (zw 1) (zf 1) :: aI cI (pb 1) 10 (zb 1) :: aI cI (pc 1) 3 (zs 1) :: oX7 (pa 2) (pb 2) (pc 2) (zc 2) (zr 2) (zl 2) (zw 2) (zf 2) :: aI cI (pb 2) 10 (zb 2) :: aI cI (pc 2) 3 (zs 2) :: oX7 (pa 3) (pb 3) (pc 3) (zc 3) (zr 3) (zl 3) (zw 3) (zf 3) :: aI cI (pb 3) 10 (zb 3) :: aI cI (pc 3) 3 (zs 3) :: oX7 (pa 4) (pb 4) (pc 4) (zc 4) (zr 4) (zl 4) (zw 4) (zf 4) :: aI cI (pb 4) 10 (zb 4) :: aI cI (pc 4) 3 (zs 4) :: oX7 (pa 5) (pb 5) (pc 5) (zc 5) (zr 5) (zl 5) (zw 5) (zf 5) :: aI cI (pb 5) 10 (zb 5) :: aI cI (pc 5) 3 (zs 5) :: X) H := pm_P hP 23 [6, 0, 1, 2, 7, 3, 4, 5, 8, 9, 10, 11, 12, 13, 14, 15, 16, 17, 18, 19, 20, 21, 22] rfl
  have hD : va_D A (oX1 hi 1 hv :: oX7 w wb ws (zc 0) (zr 0) (zl 0) (zw 0) (zf 0) :: aI cI wb 10 u_38.1 :: aI cI ws 3 u_38.2 :: aW cW hv 6 svf :: oX7 (pa 0) (pb 0) (pc 0) (zc 0) (zr 0) (zl 0) (zw 0) (zf 0) :: aI cI (pb 0) 10 (zb 0) :: aI cI (pc 0) 3 (zs 0) :: oX7 (pa 1) (pb 1) (pc 1) (zc 1) (zr 1) (zl 1) (zw 1) (zf 1) :: aI cI (pb 1) 10 (zb 1) :: aI cI (pc 1) 3 (zs 1) :: oX7 (pa 2) (pb 2) (pc 2) (zc 2) (zr 2) (zl 2) (zw 2) (zf 2) :: aI cI (pb 2) 10 (zb 2) :: aI cI (pc 2) 3 (zs 2) :: oX7 (pa 3) (pb 3) (pc 3) (zc 3) (zr 3) (zl 3) (zw 3) (zf 3) :: aI cI (pb 3) 10 (zb 3) :: aI cI (pc 3) 3 (zs 3) :: oX7 (pa 4) (pb 4) (pc 4) (zc 4) (zr 4) (zl 4) (zw 4) (zf 4) :: aI cI (pb 4) 10 (zb 4) :: aI cI (pc 4) 3 (zs 4) :: oX7 (pa 5) (pb 5) (pc 5) (zc 5) (zr 5) (zl 5) (zw 5) (zf 5) :: aI cI (pb 5) 10 (zb 5) :: aI cI (pc 5) 3 (zs 5) :: X) := pm_D hD 23 [6, 0, 1, 2, 7, 3, 4, 5, 8, 9, 10, 11, 12, 13, 14, 15, 16, 17, 18, 19, 20, 21, 22] rfl rfl rfl
  refine lv_aload_n hx hb dX1_restoreLatest_41 rfl (lv_at hl 1 rfl) ?_
  refine lv_dup hx hb dX1_restoreLatest_42 rfl ?_
  refine va_get (D := D) (ci := 1) (v := .int 1) (C := RX1) (T := TX1) (N := 2) hx hb hts hiX1 hown hK hP 0 rfl rfl 0 (by decide) (hts (.fieldLink RX1 18 "LedgeLeaps$History" "size" "I") (List.mem_of_getElem? (i := 1) rfl)) (fun _ h9 => h9) rfl dX1_restoreLatest_43 ?_
  refine lv_iconst (v := 1) hx hb dX1_restoreLatest_46 (by decide) ?_
  refine lv_isub hx hb dX1_restoreLatest_47 ?_
  refine top_i (y := 0) (by decide) ?_
  refine va_put (D := D) (ci := 1) (v := .int 0) (ty := .int) (C := RX1) (T := TX1) (N := 2) hx hb hts hiX1 tyX1 tyX1_ok nmX1 hown hK hP hD hS 0 rfl rfl 0 (by decide) (hts (.fieldLink RX1 18 "LedgeLeaps$History" "size" "I") (List.mem_of_getElem? (i := 1) rfl)) (fun _ h9 => h9) rfl (by decide +kernel) rfl rfl (Nat.le_of_ble_eq_true rfl) dX1_restoreLatest_48 (fun H locs hP hD hS => ?_)
  have hP : va_P D vwCl (oX1 hi 0 hv :: oX7 w wb ws (zc 0) (zr 0) (zl 0) (zw 0) (zf 0) :: aI cI wb 10 u_38.1 :: aI cI ws 3 u_38.2 :: aW cW hv 6 svf :: oX7 (pa 0) (pb 0) (pc 0) (zc 0) (zr 0) (zl 0) (zw 0) (zf 0) :: aI cI (pb 0) 10 (zb 0) :: aI cI (pc 0) 3 (zs 0) :: oX7 (pa 1) (pb 1) (pc 1) (zc 1) (zr 1) (zl 1) (zw 1) (zf 1) :: aI cI (pb 1) 10 (zb 1) :: aI cI (pc 1) 3 (zs 1) :: oX7 (pa 2) (pb 2) (pc 2) (zc 2) (zr 2) (zl 2) (zw 2) (zf 2) :: aI cI (pb 2) 10 (zb 2) :: aI cI (pc 2) 3 (zs 2) :: oX7 (pa 3) (pb 3) (pc 3) (zc 3) (zr 3) (zl 3) (zw 3) (zf 3) :: aI cI (pb 3) 10 (zb 3) :: aI cI (pc 3) 3 (zs 3) :: oX7 (pa 4) (pb 4) (pc 4) (zc 4) (zr 4) (zl 4) (zw 4) (zf 4) :: aI cI (pb 4) 10 (zb 4) :: aI cI (pc 4) 3 (zs 4) :: oX7 (pa 5) (pb 5) (pc 5) (zc 5) (zr 5) (zl 5) (zw 5) (zf 5) :: aI cI (pb 5) 10 (zb 5) :: aI cI (pc 5) 3 (zs 5) :: X) H := hP
  have hD : va_D A (oX1 hi 0 hv :: oX7 w wb ws (zc 0) (zr 0) (zl 0) (zw 0) (zf 0) :: aI cI wb 10 u_38.1 :: aI cI ws 3 u_38.2 :: aW cW hv 6 svf :: oX7 (pa 0) (pb 0) (pc 0) (zc 0) (zr 0) (zl 0) (zw 0) (zf 0) :: aI cI (pb 0) 10 (zb 0) :: aI cI (pc 0) 3 (zs 0) :: oX7 (pa 1) (pb 1) (pc 1) (zc 1) (zr 1) (zl 1) (zw 1) (zf 1) :: aI cI (pb 1) 10 (zb 1) :: aI cI (pc 1) 3 (zs 1) :: oX7 (pa 2) (pb 2) (pc 2) (zc 2) (zr 2) (zl 2) (zw 2) (zf 2) :: aI cI (pb 2) 10 (zb 2) :: aI cI (pc 2) 3 (zs 2) :: oX7 (pa 3) (pb 3) (pc 3) (zc 3) (zr 3) (zl 3) (zw 3) (zf 3) :: aI cI (pb 3) 10 (zb 3) :: aI cI (pc 3) 3 (zs 3) :: oX7 (pa 4) (pb 4) (pc 4) (zc 4) (zr 4) (zl 4) (zw 4) (zf 4) :: aI cI (pb 4) 10 (zb 4) :: aI cI (pc 4) 3 (zs 4) :: oX7 (pa 5) (pb 5) (pc 5) (zc 5) (zr 5) (zl 5) (zw 5) (zf 5) :: aI cI (pb 5) 10 (zb 5) :: aI cI (pc 5) 3 (zs 5) :: X) := hD
  have hPD := blk_back (w := [oX1 hi 0 hv, oX7 w wb ws (zc 0) (zr 0) (zl 0) (zw 0) (zf 0), aI cI wb 10 u_38.1, aI cI ws 3 u_38.2]) (B := [aW cW hv 6 svf, oX7 (pa 0) (pb 0) (pc 0) (zc 0) (zr 0) (zl 0) (zw 0) (zf 0), aI cI (pb 0) 10 (zb 0), aI cI (pc 0) 3 (zs 0), oX7 (pa 1) (pb 1) (pc 1) (zc 1) (zr 1) (zl 1) (zw 1) (zf 1), aI cI (pb 1) 10 (zb 1), aI cI (pc 1) 3 (zs 1), oX7 (pa 2) (pb 2) (pc 2) (zc 2) (zr 2) (zl 2) (zw 2) (zf 2), aI cI (pb 2) 10 (zb 2), aI cI (pc 2) 3 (zs 2), oX7 (pa 3) (pb 3) (pc 3) (zc 3) (zr 3) (zl 3) (zw 3) (zf 3), aI cI (pb 3) 10 (zb 3), aI cI (pc 3) 3 (zs 3), oX7 (pa 4) (pb 4) (pc 4) (zc 4) (zr 4) (zl 4) (zw 4) (zf 4), aI cI (pb 4) 10 (zb 4), aI cI (pc 4) 3 (zs 4), oX7 (pa 5) (pb 5) (pc 5) (zc 5) (zr 5) (zl 5) (zw 5) (zf 5), aI cI (pb 5) 10 (zb 5), aI cI (pc 5) 3 (zs 5)]) hP hD
  have hP := hPD.1
  have hD := hPD.2
  exact W.vret hx hb hr (fun t9 ht9 hW9 => ⟨⟨(zc 0, zr 0, zl 0, zw 0, zf 0, u_38.1, u_38.2), rfl, (hH 0 (by decide)).cong hq_38.1 hq_38.2, by rw [ht9]; exact hP, hD⟩, hS.F ht9⟩) hS.2.2 dX1_restoreLatest_51
set_option maxHeartbeats 4000000 in
set_option maxRecDepth 100000 in
theorem m_restore_2 (l : Launch) (D : va_G) (cI cZ cW cJ : ClassId) (A : Nat → Prop) (X : va_W) (hi hv : Nat) (w wb ws : Nat) (wc wr wl ww wf : Int32) (wbl wse : Nat → Int32) (HR : va_W) (hist : Nat → KS) (hR : HistR cI cW hv hist 2 HR) : Met l yX1_restoreLatest wsX1_restoreLatest ({ frames := 2, cells := 0, slots := 0, locals := 61 }) (va_Pc [.ref hi, .ref w] (wd D (tyL cI cZ cW cJ) A (oX1 hi (nI 2) hv :: oX7 w wb ws wc wr wl ww wf :: aI cI wb 10 wbl :: aI cI ws 3 wse :: (X ++ HR)))) (va_Qv (fun (u : Int32 × Int32 × Int32 × Int32 × Int32 × (Nat → Int32) × (Nat → Int32)) => AbsX (hist 1) u.2.2.2.2.2.1 u.2.2.2.2.2.2 u.1 u.2.1 u.2.2.1 u.2.2.2.1 u.2.2.2.2.1) (fun (u : Int32 × Int32 × Int32 × Int32 × Int32 × (Nat → Int32) × (Nat → Int32)) t => wq D A (oX1 hi (nI 1) hv :: oX7 w wb ws u.1 u.2.1 u.2.2.1 u.2.2.2.1 u.2.2.2.2.1 :: aI cI wb 10 u.2.2.2.2.2.1 :: aI cI ws 3 u.2.2.2.2.2.2 :: (X ++ HR)) t) A) 0 0 A := by
  refine Met.ofW (cc := cX1_restoreLatest) (maxL := 3) (ret := none) (by decide) rfl ?_
  intro p e s m args below meth c s₁ B hml hv
  obtain ⟨rfl, hsz9, hP, hK, hD, hN⟩ := hv
  have hx := B.exec
  have hb := B.bytes
  have hr := B.returns
  have hts := atoms_spec (ws := wsX1_restoreLatest) B.pre
  have hown : s.vm.findClass RX1 = some m.cls := findClass_of_methodNamed B.named
  have hlocks := B.notSynchronized
  have CF : CallFix p m c cX1_restoreLatest 3 s _ wsX1_restoreLatest RX1 := ⟨hx, hb, hml, hown, hts⟩
  have hA : ∀ q : Nat, s.heap.size ≤ q → A q := hsz9
  have hS : va_S A s.heap s.heap [] := va_S.rf
  have hiX1 : ∀ w ∈ u_ws RX1 TX1 2, w ∈ wsX1_restoreLatest := fun _ h => List.mem_cons_of_mem _ (List.mem_append_left _ (List.mem_append_right _ (h)))
  have hl := lv_entry ([.ref hi, .ref w]) (n := 3) (Nat.le_of_ble_eq_true rfl)
  rw [lg_entry_eq]
  generalize (lg_sl ([.ref hi, .ref w]) ++ List.replicate (3 - (lg_sl ([.ref hi, .ref w])).length) Slot.unset).toArray = ls at hl ⊢
  have hl : lv_has ls 3 [(0, .ref hi), (1, .ref w)] := hl
  show W p l e ({ frames := 2, cells := 0, slots := 0, locals := 61 } : Room) s m (([.ref hi, .ref w] : List Value).toArray) below meth c s.heap [] 0 0 (MQ below (va_Qv (fun (u : Int32 × Int32 × Int32 × Int32 × Int32 × (Nat → Int32) × (Nat → Int32)) => AbsX (hist 1) u.2.2.2.2.2.1 u.2.2.2.2.2.2 u.1 u.2.1 u.2.2.1 u.2.2.2.1 u.2.2.2.2.1) (fun (u : Int32 × Int32 × Int32 × Int32 × Int32 × (Nat → Int32) × (Nat → Int32)) t => wq D A (oX1 hi (nI 1) hv :: oX7 w wb ws u.1 u.2.1 u.2.2.1 u.2.2.2.1 u.2.2.2.2.1 :: aI cI wb 10 u.2.2.2.2.2.1 :: aI cI ws 3 u.2.2.2.2.2.2 :: (X ++ HR)) t) A) (([.ref hi, .ref w] : List Value).toArray) s 0 0 A) (F0 m 0 ls [])
  obtain ⟨svf, pa, pb, pc, zb, zs, zc, zr, zl, zw, zf, rfl, hsv, hn6, hH⟩ := hR
  have hPD := blk_front (w := [oX1 hi 2 hv, oX7 w wb ws wc wr wl ww wf, aI cI wb 10 wbl, aI cI ws 3 wse]) hP hD
  have hP : va_P D vwCl (oX1 hi 2 hv :: oX7 w wb ws wc wr wl ww wf :: aI cI wb 10 wbl :: aI cI ws 3 wse :: aW cW hv 6 svf :: oX7 (pa 0) (pb 0) (pc 0) (zc 0) (zr 0) (zl 0) (zw 0) (zf 0) :: aI cI (pb 0) 10 (zb 0) :: aI cI (pc 0) 3 (zs 0) :: oX7 (pa 1) (pb 1) (pc 1) (zc 1) (zr 1) (zl 1) (zw 1) (zf 1) :: aI cI (pb 1) 10 (zb 1) :: aI cI (pc 1) 3 (zs 1) :: oX7 (pa 2) (pb 2) (pc 2) (zc 2) (zr 2) (zl 2) (zw 2) (zf 2) :: aI cI (pb 2) 10 (zb 2) :: aI cI (pc 2) 3 (zs 2) :: oX7 (pa 3) (pb 3) (pc 3) (zc 3) (zr 3) (zl 3) (zw 3) (zf 3) :: aI cI (pb 3) 10 (zb 3) :: aI cI (pc 3) 3 (zs 3) :: oX7 (pa 4) (pb 4) (pc 4) (zc 4) (zr 4) (zl 4) (zw 4) (zf 4) :: aI cI (pb 4) 10 (zb 4) :: aI cI (pc 4) 3 (zs 4) :: oX7 (pa 5) (pb 5) (pc 5) (zc 5) (zr 5) (zl 5) (zw 5) (zf 5) :: aI cI (pb 5) 10 (zb 5) :: aI cI (pc 5) 3 (zs 5) :: X) s.heap := hPD.1
  have hD : va_D A (oX1 hi 2 hv :: oX7 w wb ws wc wr wl ww wf :: aI cI wb 10 wbl :: aI cI ws 3 wse :: aW cW hv 6 svf :: oX7 (pa 0) (pb 0) (pc 0) (zc 0) (zr 0) (zl 0) (zw 0) (zf 0) :: aI cI (pb 0) 10 (zb 0) :: aI cI (pc 0) 3 (zs 0) :: oX7 (pa 1) (pb 1) (pc 1) (zc 1) (zr 1) (zl 1) (zw 1) (zf 1) :: aI cI (pb 1) 10 (zb 1) :: aI cI (pc 1) 3 (zs 1) :: oX7 (pa 2) (pb 2) (pc 2) (zc 2) (zr 2) (zl 2) (zw 2) (zf 2) :: aI cI (pb 2) 10 (zb 2) :: aI cI (pc 2) 3 (zs 2) :: oX7 (pa 3) (pb 3) (pc 3) (zc 3) (zr 3) (zl 3) (zw 3) (zf 3) :: aI cI (pb 3) 10 (zb 3) :: aI cI (pc 3) 3 (zs 3) :: oX7 (pa 4) (pb 4) (pc 4) (zc 4) (zr 4) (zl 4) (zw 4) (zf 4) :: aI cI (pb 4) 10 (zb 4) :: aI cI (pc 4) 3 (zs 4) :: oX7 (pa 5) (pb 5) (pc 5) (zc 5) (zr 5) (zl 5) (zw 5) (zf 5) :: aI cI (pb 5) 10 (zb 5) :: aI cI (pc 5) 3 (zs 5) :: X) := hPD.2
  refine lv_aload_n hx hb dX1_restoreLatest_0 rfl (lv_at hl 0 rfl) ?_
  refine va_get (D := D) (ci := 1) (v := .int 2) (C := RX1) (T := TX1) (N := 2) hx hb hts hiX1 hown hK hP 0 rfl rfl 0 (by decide) (hts (.fieldLink RX1 18 "LedgeLeaps$History" "size" "I") (List.mem_of_getElem? (i := 1) rfl)) (fun _ h9 => h9) rfl dX1_restoreLatest_1 ?_
  have c_4 : ¬ (2 : Int32) ≤ 0 := by decide
  refine lv_if_le (tgt := 30) hx hb dX1_restoreLatest_4 (by decide) (fun q => absurd q c_4) (fun _ => ?_)
  refine lv_aload_n hx hb dX1_restoreLatest_7 rfl (lv_at hl 0 rfl) ?_
  refine va_get (D := D) (ci := 1) (v := .int 2) (C := RX1) (T := TX1) (N := 2) hx hb hts hiX1 hown hK hP 0 rfl rfl 0 (by decide) (hts (.fieldLink RX1 18 "LedgeLeaps$History" "size" "I") (List.mem_of_getElem? (i := 1) rfl)) (fun _ h9 => h9) rfl dX1_restoreLatest_8 ?_
  refine lv_bipush (v := 6) hx hb dX1_restoreLatest_11 (by decide) ?_
  have c_13 : ¬ (6 : Int32) < 2 := by decide
  refine lv_icmp_gt (tgt := 30) hx hb dX1_restoreLatest_13 (by decide) (fun q => absurd q c_13) (fun _ => ?_)
  refine lv_aload_n hx hb dX1_restoreLatest_16 rfl (lv_at hl 0 rfl) ?_
  refine va_get (D := D) (ci := 1) (v := .ref hv) (C := RX1) (T := TX1) (N := 2) hx hb hts hiX1 hown hK hP 0 rfl rfl 1 (by decide) (hts (.fieldLink RX1 11 "LedgeLeaps$History" "saved" "[LLedgeLeaps$World;") (List.mem_of_getElem? (i := 2) rfl)) (fun _ h9 => h9) rfl dX1_restoreLatest_17 ?_
  refine lv_aload_n hx hb dX1_restoreLatest_20 rfl (lv_at hl 0 rfl) ?_
  refine va_get (D := D) (ci := 1) (v := .int 2) (C := RX1) (T := TX1) (N := 2) hx hb hts hiX1 hown hK hP 0 rfl rfl 0 (by decide) (hts (.fieldLink RX1 18 "LedgeLeaps$History" "size" "I") (List.mem_of_getElem? (i := 1) rfl)) (fun _ h9 => h9) rfl dX1_restoreLatest_21 ?_
  refine lv_iconst (v := 1) hx hb dX1_restoreLatest_24 (by decide) ?_
  refine lv_isub hx hb dX1_restoreLatest_25 ?_
  refine top_i (y := 1) (by decide) ?_
  refine va_aldr (v := (pa 1)) hx hb hK hP 4 2 rfl rfl (show ¬ ((1 : Int32) < 0 ∨ 6 ≤ (1 : Int32).toNatClampNeg) by decide) (hsv 1 (by decide)) dX1_restoreLatest_26 ?_
  refine lv_goto (tgt := 31) hx hb dX1_restoreLatest_27 (by decide) ?_
  refine lv_astore_n (lv' := [(2, .ref (pa 1)), (0, .ref hi), (1, .ref w)]) hx hb dX1_restoreLatest_31 rfl hl (by decide) rfl (fun ls hl => ?_)
  refine lv_aload_n hx hb dX1_restoreLatest_32 rfl (lv_at hl 0 rfl) ?_
  refine lv_ifnull hx hb dX1_restoreLatest_33 ?_
  refine lv_aload_n hx hb dX1_restoreLatest_36 rfl (lv_at hl 2 rfl) ?_
  refine lv_aload_n hx hb dX1_restoreLatest_37 rfl (lv_at hl 0 rfl) ?_
  refine cV_v CF hK hN hA hS (cut_of 23 [1, 2, 3, 8, 9, 10, 0, 4, 5, 6, 7, 11, 12, 13, 14, 15, 16, 17, 18, 19, 20, 21, 22] hP hD rfl rfl rfl) (m_becomeLike l D cI cZ cW cJ A (oX1 hi 2 hv :: aW cW hv 6 svf :: oX7 (pa 0) (pb 0) (pc 0) (zc 0) (zr 0) (zl 0) (zw 0) (zf 0) :: aI cI (pb 0) 10 (zb 0) :: aI cI (pc 0) 3 (zs 0) :: oX7 (pa 2) (pb 2) (pc 2) (zc 2) (zr 2) (zl 2) (zw 2) (zf 2) :: aI cI (pb 2) 10 (zb 2) :: aI cI (pc 2) 3 (zs 2) :: oX7 (pa 3) (pb 3) (pc 3) (zc 3) (zr 3) (zl 3) (zw 3) (zf 3) :: aI cI (pb 3) 10 (zb 3) :: aI cI (pc 3) 3 (zs 3) :: oX7 (pa 4) (pb 4) (pc 4) (zc 4) (zr 4) (zl 4) (zw 4) (zf 4) :: aI cI (pb 4) 10 (zb 4) :: aI cI (pc 4) 3 (zs 4) :: oX7 (pa 5) (pb 5) (pc 5) (zc 5) (zr 5) (zl 5) (zw 5) (zf 5) :: aI cI (pb 5) 10 (zb 5) :: aI cI (pc 5) 3 (zs 5) :: X) w wb ws wc wr wl ww wf wbl wse (pa 1) (pb 1) (pc 1) (zc 1) (zr 1) (zl 1) (zw 1) (zf 1) (zb 1) (zs 1)) (cwV 1 hts gX1_restoreLatest_X7_becomeLike rfl rfl rfl (by decide +kernel) ⟨Nat.le_of_ble_eq_true rfl, Nat.le_of_ble_eq_true rfl⟩) (As := [.ref (pa 1)]) (rest := []) (ci := 7) (q0 := 0) rfl rfl rfl hl.1 rfl (Nat.le_of_ble_eq_true rfl) dX1_restoreLatest_38 ⟨Nat.le_of_ble_eq_true rfl, Nat.le_of_ble_eq_true rfl⟩ (fun u_38 H locs hq hP hD hS => ?_)
  have hq_38 : (∀ j, j < 10 → u_38.1 j = (zb 1) j) ∧ (∀ j, j < 3 → u_38.2 j = (zs 1) j) := hq
  have hP : va_P D vwCl (oX1 hi 2 hv :: oX7 w wb ws (zc 1) (zr 1) (zl 1) (zw 1) (zf 1) :: aI cI wb 10 u_38.1 :: aI cI ws 3 u_38.2 :: aW cW hv 6 svf :: oX7 (pa 0) (pb 0) (pc 0) (zc 0) (zr 0) (zl 0) (zw 0) (zf 0) :: aI cI (pb 0) 10 (zb 0) :: aI cI (pc 0) 3 (zs 0) :: oX7 (pa 1) (pb 1) (pc 1) (zc 1) (zr 1) (zl 1) (zw 1) (zf 1) :: aI cI (pb 1) 10 (zb 1) :: aI cI (pc 1) 3 (zs 1) :: oX7 (pa 2) (pb 2) (pc 2) (zc 2) (zr 2) (zl 2) (zw 2) (zf 2) :: aI cI (pb 2) 10 (zb 2) :: aI cI (pc 2) 3 (zs 2) :: oX7 (pa 3) (pb 3) (pc 3) (zc 3) (zr 3) (zl 3) (zw 3) (zf 3) :: aI cI (pb 3) 10 (zb 3) :: aI cI (pc 3) 3 (zs 3) :: oX7 (pa 4) (pb 4) (pc 4) (zc 4) (zr 4) (zl 4) (zw 4) (zf 4) :: aI cI (pb 4) 10 (zb 4) :: aI cI (pc 4) 3 (zs 4) :: oX7 (pa 5) (pb 5) (pc 5) (zc 5) (zr 5) (zl 5) (zw 5) (zf 5) :: aI cI (pb 5) 10 (zb 5) :: aI cI (pc 5) 3 (zs 5) :: X) H := pm_P hP 23 [6, 0, 1, 2, 7, 8, 9, 10, 3, 4, 5, 11, 12, 13, 14, 15, 16, 17, 18, 19, 20, 21, 22] rfl
  have hD : va_D A (oX1 hi 2 hv :: oX7 w wb ws (zc 1) (zr 1) (zl 1) (zw 1) (zf 1) :: aI cI wb 10 u_38.1 :: aI cI ws 3 u_38.2 :: aW cW hv 6 svf :: oX7 (pa 0) (pb 0) (pc 0) (zc 0) (zr 0) (zl 0) (zw 0) (zf 0) :: aI cI (pb 0) 10 (zb 0) :: aI cI (pc 0) 3 (zs 0) :: oX7 (pa 1) (pb 1) (pc 1) (zc 1) (zr 1) (zl 1) (zw 1) (zf 1) :: aI cI (pb 1) 10 (zb 1) :: aI cI (pc 1) 3 (zs 1) :: oX7 (pa 2) (pb 2) (pc 2) (zc 2) (zr 2) (zl 2) (zw 2) (zf 2) :: aI cI (pb 2) 10 (zb 2) :: aI cI (pc 2) 3 (zs 2) :: oX7 (pa 3) (pb 3) (pc 3) (zc 3) (zr 3) (zl 3) (zw 3) (zf 3) :: aI cI (pb 3) 10 (zb 3) :: aI cI (pc 3) 3 (zs 3) :: oX7 (pa 4) (pb 4) (pc 4) (zc 4) (zr 4) (zl 4) (zw 4) (zf 4) :: aI cI (pb 4) 10 (zb 4) :: aI cI (pc 4) 3 (zs 4) :: oX7 (pa 5) (pb 5) (pc 5) (zc 5) (zr 5) (zl 5) (zw 5) (zf 5) :: aI cI (pb 5) 10 (zb 5) :: aI cI (pc 5) 3 (zs 5) :: X) := pm_D hD 23 [6, 0, 1, 2, 7, 8, 9, 10, 3, 4, 5, 11, 12, 13, 14, 15, 16, 17, 18, 19, 20, 21, 22] rfl rfl rfl
  refine lv_aload_n hx hb dX1_restoreLatest_41 rfl (lv_at hl 1 rfl) ?_
  refine lv_dup hx hb dX1_restoreLatest_42 rfl ?_
  refine va_get (D := D) (ci := 1) (v := .int 2) (C := RX1) (T := TX1) (N := 2) hx hb hts hiX1 hown hK hP 0 rfl rfl 0 (by decide) (hts (.fieldLink RX1 18 "LedgeLeaps$History" "size" "I") (List.mem_of_getElem? (i := 1) rfl)) (fun _ h9 => h9) rfl dX1_restoreLatest_43 ?_
  refine lv_iconst (v := 1) hx hb dX1_restoreLatest_46 (by decide) ?_
  refine lv_isub hx hb dX1_restoreLatest_47 ?_
  refine top_i (y := 1) (by decide) ?_
  refine va_put (D := D) (ci := 1) (v := .int 1) (ty := .int) (C := RX1) (T := TX1) (N := 2) hx hb hts hiX1 tyX1 tyX1_ok nmX1 hown hK hP hD hS 0 rfl rfl 0 (by decide) (hts (.fieldLink RX1 18 "LedgeLeaps$History" "size" "I") (List.mem_of_getElem? (i := 1) rfl)) (fun _ h9 => h9) rfl (by decide +kernel) rfl rfl (Nat.le_of_ble_eq_true rfl) dX1_restoreLatest_48 (fun H locs hP hD hS => ?_)
  have hP : va_P D vwCl (oX1 hi 1 hv :: oX7 w wb ws (zc 1) (zr 1) (zl 1) (zw 1) (zf 1) :: aI cI wb 10 u_38.1 :: aI cI ws 3 u_38.2 :: aW cW hv 6 svf :: oX7 (pa 0) (pb 0) (pc 0) (zc 0) (zr 0) (zl 0) (zw 0) (zf 0) :: aI cI (pb 0) 10 (zb 0) :: aI cI (pc 0) 3 (zs 0) :: oX7 (pa 1) (pb 1) (pc 1) (zc 1) (zr 1) (zl 1) (zw 1) (zf 1) :: aI cI (pb 1) 10 (zb 1) :: aI cI (pc 1) 3 (zs 1) :: oX7 (pa 2) (pb 2) (pc 2) (zc 2) (zr 2) (zl 2) (zw 2) (zf 2) :: aI cI (pb 2) 10 (zb 2) :: aI cI (pc 2) 3 (zs 2) :: oX7 (pa 3) (pb 3) (pc 3) (zc 3) (zr 3) (zl 3) (zw 3) (zf 3) :: aI cI (pb 3) 10 (zb 3) :: aI cI (pc 3) 3 (zs 3) :: oX7 (pa 4) (pb 4) (pc 4) (zc 4) (zr 4) (zl 4) (zw 4) (zf 4) :: aI cI (pb 4) 10 (zb 4) :: aI cI (pc 4) 3 (zs 4) :: oX7 (pa 5) (pb 5) (pc 5) (zc 5) (zr 5) (zl 5) (zw 5) (zf 5) :: aI cI (pb 5) 10 (zb 5) :: aI cI (pc 5) 3 (zs 5) :: X) H := hP
  have hD : va_D A (oX1 hi 1 hv :: oX7 w wb ws (zc 1) (zr 1) (zl 1) (zw 1) (zf 1) :: aI cI wb 10 u_38.1 :: aI cI ws 3 u_38.2 :: aW cW hv 6 svf :: oX7 (pa 0) (pb 0) (pc 0) (zc 0) (zr 0) (zl 0) (zw 0) (zf 0) :: aI cI (pb 0) 10 (zb 0) :: aI cI (pc 0) 3 (zs 0) :: oX7 (pa 1) (pb 1) (pc 1) (zc 1) (zr 1) (zl 1) (zw 1) (zf 1) :: aI cI (pb 1) 10 (zb 1) :: aI cI (pc 1) 3 (zs 1) :: oX7 (pa 2) (pb 2) (pc 2) (zc 2) (zr 2) (zl 2) (zw 2) (zf 2) :: aI cI (pb 2) 10 (zb 2) :: aI cI (pc 2) 3 (zs 2) :: oX7 (pa 3) (pb 3) (pc 3) (zc 3) (zr 3) (zl 3) (zw 3) (zf 3) :: aI cI (pb 3) 10 (zb 3) :: aI cI (pc 3) 3 (zs 3) :: oX7 (pa 4) (pb 4) (pc 4) (zc 4) (zr 4) (zl 4) (zw 4) (zf 4) :: aI cI (pb 4) 10 (zb 4) :: aI cI (pc 4) 3 (zs 4) :: oX7 (pa 5) (pb 5) (pc 5) (zc 5) (zr 5) (zl 5) (zw 5) (zf 5) :: aI cI (pb 5) 10 (zb 5) :: aI cI (pc 5) 3 (zs 5) :: X) := hD
  have hPD := blk_back (w := [oX1 hi 1 hv, oX7 w wb ws (zc 1) (zr 1) (zl 1) (zw 1) (zf 1), aI cI wb 10 u_38.1, aI cI ws 3 u_38.2]) (B := [aW cW hv 6 svf, oX7 (pa 0) (pb 0) (pc 0) (zc 0) (zr 0) (zl 0) (zw 0) (zf 0), aI cI (pb 0) 10 (zb 0), aI cI (pc 0) 3 (zs 0), oX7 (pa 1) (pb 1) (pc 1) (zc 1) (zr 1) (zl 1) (zw 1) (zf 1), aI cI (pb 1) 10 (zb 1), aI cI (pc 1) 3 (zs 1), oX7 (pa 2) (pb 2) (pc 2) (zc 2) (zr 2) (zl 2) (zw 2) (zf 2), aI cI (pb 2) 10 (zb 2), aI cI (pc 2) 3 (zs 2), oX7 (pa 3) (pb 3) (pc 3) (zc 3) (zr 3) (zl 3) (zw 3) (zf 3), aI cI (pb 3) 10 (zb 3), aI cI (pc 3) 3 (zs 3), oX7 (pa 4) (pb 4) (pc 4) (zc 4) (zr 4) (zl 4) (zw 4) (zf 4), aI cI (pb 4) 10 (zb 4), aI cI (pc 4) 3 (zs 4), oX7 (pa 5) (pb 5) (pc 5) (zc 5) (zr 5) (zl 5) (zw 5) (zf 5), aI cI (pb 5) 10 (zb 5), aI cI (pc 5) 3 (zs 5)]) hP hD
  have hP := hPD.1
  have hD := hPD.2
  exact W.vret hx hb hr (fun t9 ht9 hW9 => ⟨⟨(zc 1, zr 1, zl 1, zw 1, zf 1, u_38.1, u_38.2), rfl, (hH 1 (by decide)).cong hq_38.1 hq_38.2, by rw [ht9]; exact hP, hD⟩, hS.F ht9⟩) hS.2.2 dX1_restoreLatest_51
set_option maxHeartbeats 4000000 in
set_option maxRecDepth 100000 in
theorem m_restore_3 (l : Launch) (D : va_G) (cI cZ cW cJ : ClassId) (A : Nat → Prop) (X : va_W) (hi hv : Nat) (w wb ws : Nat) (wc wr wl ww wf : Int32) (wbl wse : Nat → Int32) (HR : va_W) (hist : Nat → KS) (hR : HistR cI cW hv hist 3 HR) : Met l yX1_restoreLatest wsX1_restoreLatest ({ frames := 2, cells := 0, slots := 0, locals := 61 }) (va_Pc [.ref hi, .ref w] (wd D (tyL cI cZ cW cJ) A (oX1 hi (nI 3) hv :: oX7 w wb ws wc wr wl ww wf :: aI cI wb 10 wbl :: aI cI ws 3 wse :: (X ++ HR)))) (va_Qv (fun (u : Int32 × Int32 × Int32 × Int32 × Int32 × (Nat → Int32) × (Nat → Int32)) => AbsX (hist 2) u.2.2.2.2.2.1 u.2.2.2.2.2.2 u.1 u.2.1 u.2.2.1 u.2.2.2.1 u.2.2.2.2.1) (fun (u : Int32 × Int32 × Int32 × Int32 × Int32 × (Nat → Int32) × (Nat → Int32)) t => wq D A (oX1 hi (nI 2) hv :: oX7 w wb ws u.1 u.2.1 u.2.2.1 u.2.2.2.1 u.2.2.2.2.1 :: aI cI wb 10 u.2.2.2.2.2.1 :: aI cI ws 3 u.2.2.2.2.2.2 :: (X ++ HR)) t) A) 0 0 A := by
  refine Met.ofW (cc := cX1_restoreLatest) (maxL := 3) (ret := none) (by decide) rfl ?_
  intro p e s m args below meth c s₁ B hml hv
  obtain ⟨rfl, hsz9, hP, hK, hD, hN⟩ := hv
  have hx := B.exec
  have hb := B.bytes
  have hr := B.returns
  have hts := atoms_spec (ws := wsX1_restoreLatest) B.pre
  have hown : s.vm.findClass RX1 = some m.cls := findClass_of_methodNamed B.named
  have hlocks := B.notSynchronized
  have CF : CallFix p m c cX1_restoreLatest 3 s _ wsX1_restoreLatest RX1 := ⟨hx, hb, hml, hown, hts⟩
  have hA : ∀ q : Nat, s.heap.size ≤ q → A q := hsz9
  have hS : va_S A s.heap s.heap [] := va_S.rf
  have hiX1 : ∀ w ∈ u_ws RX1 TX1 2, w ∈ wsX1_restoreLatest := fun _ h => List.mem_cons_of_mem _ (List.mem_append_left _ (List.mem_append_right _ (h)))
  have hl := lv_entry ([.ref hi, .ref w]) (n := 3) (Nat.le_of_ble_eq_true rfl)
  rw [lg_entry_eq]
  generalize (lg_sl ([.ref hi, .ref w]) ++ List.replicate (3 - (lg_sl ([.ref hi, .ref w])).length) Slot.unset).toArray = ls at hl ⊢
  have hl : lv_has ls 3 [(0, .ref hi), (1, .ref w)] := hl
  show W p l e ({ frames := 2, cells := 0, slots := 0, locals := 61 } : Room) s m (([.ref hi, .ref w] : List Value).toArray) below meth c s.heap [] 0 0 (MQ below (va_Qv (fun (u : Int32 × Int32 × Int32 × Int32 × Int32 × (Nat → Int32) × (Nat → Int32)) => AbsX (hist 2) u.2.2.2.2.2.1 u.2.2.2.2.2.2 u.1 u.2.1 u.2.2.1 u.2.2.2.1 u.2.2.2.2.1) (fun (u : Int32 × Int32 × Int32 × Int32 × Int32 × (Nat → Int32) × (Nat → Int32)) t => wq D A (oX1 hi (nI 2) hv :: oX7 w wb ws u.1 u.2.1 u.2.2.1 u.2.2.2.1 u.2.2.2.2.1 :: aI cI wb 10 u.2.2.2.2.2.1 :: aI cI ws 3 u.2.2.2.2.2.2 :: (X ++ HR)) t) A) (([.ref hi, .ref w] : List Value).toArray) s 0 0 A) (F0 m 0 ls [])
  obtain ⟨svf, pa, pb, pc, zb, zs, zc, zr, zl, zw, zf, rfl, hsv, hn6, hH⟩ := hR
  have hPD := blk_front (w := [oX1 hi 3 hv, oX7 w wb ws wc wr wl ww wf, aI cI wb 10 wbl, aI cI ws 3 wse]) hP hD
  have hP : va_P D vwCl (oX1 hi 3 hv :: oX7 w wb ws wc wr wl ww wf :: aI cI wb 10 wbl :: aI cI ws 3 wse :: aW cW hv 6 svf :: oX7 (pa 0) (pb 0) (pc 0) (zc 0) (zr 0) (zl 0) (zw 0) (zf 0) :: aI cI (pb 0) 10 (zb 0) :: aI cI (pc 0) 3 (zs 0) :: oX7 (pa 1) (pb 1) (pc 1) (zc 1) (zr 1) (zl 1) (zw 1) (zf 1) :: aI cI (pb 1) 10 (zb 1) :: aI cI (pc 1) 3 (zs 1) :: oX7 (pa 2) (pb 2) (pc 2) (zc 2) (zr 2) (zl 2) (zw 2) (zf 2) :: aI cI (pb 2) 10 (zb 2) :: aI cI (pc 2) 3 (zs 2) :: oX7 (pa 3) (pb 3) (pc 3) (zc 3) (zr 3) (zl 3) (zw 3) (zf 3) :: aI cI (pb 3) 10 (zb 3) :: aI cI (pc 3) 3 (zs 3) :: oX7 (pa 4) (pb 4) (pc 4) (zc 4) (zr 4) (zl 4) (zw 4) (zf 4) :: aI cI (pb 4) 10 (zb 4) :: aI cI (pc 4) 3 (zs 4) :: oX7 (pa 5) (pb 5) (pc 5) (zc 5) (zr 5) (zl 5) (zw 5) (zf 5) :: aI cI (pb 5) 10 (zb 5) :: aI cI (pc 5) 3 (zs 5) :: X) s.heap := hPD.1
  have hD : va_D A (oX1 hi 3 hv :: oX7 w wb ws wc wr wl ww wf :: aI cI wb 10 wbl :: aI cI ws 3 wse :: aW cW hv 6 svf :: oX7 (pa 0) (pb 0) (pc 0) (zc 0) (zr 0) (zl 0) (zw 0) (zf 0) :: aI cI (pb 0) 10 (zb 0) :: aI cI (pc 0) 3 (zs 0) :: oX7 (pa 1) (pb 1) (pc 1) (zc 1) (zr 1) (zl 1) (zw 1) (zf 1) :: aI cI (pb 1) 10 (zb 1) :: aI cI (pc 1) 3 (zs 1) :: oX7 (pa 2) (pb 2) (pc 2) (zc 2) (zr 2) (zl 2) (zw 2) (zf 2) :: aI cI (pb 2) 10 (zb 2) :: aI cI (pc 2) 3 (zs 2) :: oX7 (pa 3) (pb 3) (pc 3) (zc 3) (zr 3) (zl 3) (zw 3) (zf 3) :: aI cI (pb 3) 10 (zb 3) :: aI cI (pc 3) 3 (zs 3) :: oX7 (pa 4) (pb 4) (pc 4) (zc 4) (zr 4) (zl 4) (zw 4) (zf 4) :: aI cI (pb 4) 10 (zb 4) :: aI cI (pc 4) 3 (zs 4) :: oX7 (pa 5) (pb 5) (pc 5) (zc 5) (zr 5) (zl 5) (zw 5) (zf 5) :: aI cI (pb 5) 10 (zb 5) :: aI cI (pc 5) 3 (zs 5) :: X) := hPD.2
  refine lv_aload_n hx hb dX1_restoreLatest_0 rfl (lv_at hl 0 rfl) ?_
  refine va_get (D := D) (ci := 1) (v := .int 3) (C := RX1) (T := TX1) (N := 2) hx hb hts hiX1 hown hK hP 0 rfl rfl 0 (by decide) (hts (.fieldLink RX1 18 "LedgeLeaps$History" "size" "I") (List.mem_of_getElem? (i := 1) rfl)) (fun _ h9 => h9) rfl dX1_restoreLatest_1 ?_
  have c_4 : ¬ (3 : Int32) ≤ 0 := by decide
  refine lv_if_le (tgt := 30) hx hb dX1_restoreLatest_4 (by decide) (fun q => absurd q c_4) (fun _ => ?_)
  refine lv_aload_n hx hb dX1_restoreLatest_7 rfl (lv_at hl 0 rfl) ?_
  refine va_get (D := D) (ci := 1) (v := .int 3) (C := RX1) (T := TX1) (N := 2) hx hb hts hiX1 hown hK hP 0 rfl rfl 0 (by decide) (hts (.fieldLink RX1 18 "LedgeLeaps$History" "size" "I") (List.mem_of_getElem? (i := 1) rfl)) (fun _ h9 => h9) rfl dX1_restoreLatest_8 ?_
  refine lv_bipush (v := 6) hx hb dX1_restoreLatest_11 (by decide) ?_
  have c_13 : ¬ (6 : Int32) < 3 := by decide
  refine lv_icmp_gt (tgt := 30) hx hb dX1_restoreLatest_13 (by decide) (fun q => absurd q c_13) (fun _ => ?_)
  refine lv_aload_n hx hb dX1_restoreLatest_16 rfl (lv_at hl 0 rfl) ?_
  refine va_get (D := D) (ci := 1) (v := .ref hv) (C := RX1) (T := TX1) (N := 2) hx hb hts hiX1 hown hK hP 0 rfl rfl 1 (by decide) (hts (.fieldLink RX1 11 "LedgeLeaps$History" "saved" "[LLedgeLeaps$World;") (List.mem_of_getElem? (i := 2) rfl)) (fun _ h9 => h9) rfl dX1_restoreLatest_17 ?_
  refine lv_aload_n hx hb dX1_restoreLatest_20 rfl (lv_at hl 0 rfl) ?_
  refine va_get (D := D) (ci := 1) (v := .int 3) (C := RX1) (T := TX1) (N := 2) hx hb hts hiX1 hown hK hP 0 rfl rfl 0 (by decide) (hts (.fieldLink RX1 18 "LedgeLeaps$History" "size" "I") (List.mem_of_getElem? (i := 1) rfl)) (fun _ h9 => h9) rfl dX1_restoreLatest_21 ?_
  refine lv_iconst (v := 1) hx hb dX1_restoreLatest_24 (by decide) ?_
  refine lv_isub hx hb dX1_restoreLatest_25 ?_
  refine top_i (y := 2) (by decide) ?_
  refine va_aldr (v := (pa 2)) hx hb hK hP 4 2 rfl rfl (show ¬ ((2 : Int32) < 0 ∨ 6 ≤ (2 : Int32).toNatClampNeg) by decide) (hsv 2 (by decide)) dX1_restoreLatest_26 ?_
  refine lv_goto (tgt := 31) hx hb dX1_restoreLatest_27 (by decide) ?_
  refine lv_astore_n (lv' := [(2, .ref (pa 2)), (0, .ref hi), (1, .ref w)]) hx hb dX1_restoreLatest_31 rfl hl (by decide) rfl (fun ls hl => ?_)
  refine lv_aload_n hx hb dX1_restoreLatest_32 rfl (lv_at hl 0 rfl) ?_
  refine lv_ifnull hx hb dX1_restoreLatest_33 ?_
  refine lv_aload_n hx hb dX1_restoreLatest_36 rfl (lv_at hl 2 rfl) ?_
  refine lv_aload_n hx hb dX1_restoreLatest_37 rfl (lv_at hl 0 rfl) ?_
  refine cV_v CF hK hN hA hS (cut_of 23 [1, 2, 3, 11, 12, 13, 0, 4, 5, 6, 7, 8, 9, 10, 14, 15, 16, 17, 18, 19, 20, 21, 22] hP hD rfl rfl rfl) (m_becomeLike l D cI cZ cW cJ A (oX1 hi 3 hv :: aW cW hv 6 svf :: oX7 (pa 0) (pb 0) (pc 0) (zc 0) (zr 0) (zl 0) (zw 0) (zf 0) :: aI cI (pb 0) 10 (zb 0) :: aI cI (pc 0) 3 (zs 0) :: oX7 (pa 1) (pb 1) (pc 1) (zc 1) (zr 1) (zl 1) (zw 1) (zf 1) :: aI cI (pb 1) 10 (zb 1) :: aI cI (pc 1) 3 (zs 1) :: oX7 (pa 3) (pb 3) (pc 3) (zc 3) (zr 3) (zl 3) (zw 3) (zf 3) :: aI cI (pb 3) 10 (zb 3) :: aI cI (pc 3) 3 (zs 3) :: oX7 (pa 4) (pb 4) (pc 4) (zc 4) (zr 4) (zl 4) (zw 4) (zf 4) :: aI cI (pb 4) 10 (zb 4) :: aI cI (pc 4) 3 (zs 4) :: oX7 (pa 5) (pb 5) (pc 5) (zc 5) (zr 5) (zl 5) (zw 5) (zf 5) :: aI cI (pb 5) 10 (zb 5) :: aI cI (pc 5) 3 (zs 5) :: X) w wb ws wc wr wl ww wf wbl wse (pa 2) (pb 2) (pc 2) (zc 2) (zr 2) (zl 2) (zw 2) (zf 2) (zb 2) (zs 2)) (cwV 1 hts gX1_restoreLatest_X7_becomeLike rfl rfl rfl (by decide +kernel) ⟨Nat.le_of_ble_eq_true rfl, Nat.le_of_ble_eq_true rfl⟩) (As := [.ref (pa 2)]) (rest := []) (ci := 7) (q0 := 0) rfl rfl rfl hl.1 rfl (Nat.le_of_ble_eq_true rfl) dX1_restoreLatest_38 ⟨Nat.le_of_ble_eq_true rfl, Nat.le_of_ble_eq_true rfl⟩ (fun u_38 H locs hq hP hD hS => ?_)
  have hq_38 : (∀ j, j < 10 → u_38.1 j = (zb 2) j) ∧ (∀ j, j < 3 → u_38.2 j = (zs 2) j) := hq
  have hP : va_P D vwCl (oX1 hi 3 hv :: oX7 w wb ws (zc 2) (zr 2) (zl 2) (zw 2) (zf 2) :: aI cI wb 10 u_38.1 :: aI cI ws 3 u_38.2 :: aW cW hv 6 svf :: oX7 (pa 0) (pb 0) (pc 0) (zc 0) (zr 0) (zl 0) (zw 0) (zf 0) :: aI cI (pb 0) 10 (zb 0) :: aI cI (pc 0) 3 (zs 0) :: oX7 (pa 1) (pb 1) (pc 1) (zc 1) (zr 1) (zl 1) (zw 1) (zf 1) :: aI cI (pb 1) 10 (zb 1) :: aI cI (pc 1) 3 (zs 1) :: oX7 (pa 2) (pb 2) (pc 2) (zc 2) (zr 2) (zl 2) (zw 2) (zf 2) :: aI cI (pb 2) 10 (zb 2) :: aI cI (pc 2) 3 (zs 2) :: oX7 (pa 3) (pb 3) (pc 3) (zc 3) (zr 3) (zl 3) (zw 3) (zf 3) :: aI cI (pb 3) 10 (zb 3) :: aI cI (pc 3) 3 (zs 3) :: oX7 (pa 4) (pb 4) (pc 4) (zc 4) (zr 4) (zl 4) (zw 4) (zf 4) :: aI cI (pb 4) 10 (zb 4) :: aI cI (pc 4) 3 (zs 4) :: oX7 (pa 5) (pb 5) (pc 5) (zc 5) (zr 5) (zl 5) (zw 5) (zf 5) :: aI cI (pb 5) 10 (zb 5) :: aI cI (pc 5) 3 (zs 5) :: X) H := pm_P hP 23 [6, 0, 1, 2, 7, 8, 9, 10, 11, 12, 13, 3, 4, 5, 14, 15, 16, 17, 18, 19, 20, 21, 22] rfl
  have hD : va_D A (oX1 hi 3 hv :: oX7 w wb ws (zc 2) (zr 2) (zl 2) (zw 2) (zf 2) :: aI cI wb 10 u_38.1 :: aI cI ws 3 u_38.2 :: aW cW hv 6 svf :: oX7 (pa 0) (pb 0) (pc 0) (zc 0) (zr 0) (zl 0) (zw 0) (zf 0) :: aI cI (pb 0) 10 (zb 0) :: aI cI (pc 0) 3 (zs 0) :: oX7 (pa 1) (pb 1) (pc 1) (zc 1) (zr 1) (zl 1) (zw 1) (zf 1) :: aI cI (pb 1) 10 (zb 1) :: aI cI (pc 1) 3 (zs 1) :: oX7 (pa 2) (pb 2) (pc 2) (zc 2) (zr 2) (zl 2) (zw 2) (zf 2) :: aI cI (pb 2) 10 (zb 2) :: aI cI (pc 2) 3 (zs 2) :: oX7 (pa 3) (pb 3) (pc 3) (zc 3) (zr 3) (zl 3) (zw 3) (zf 3) :: aI cI (pb 3) 10 (zb 3) :: aI cI (pc 3) 3 (zs 3) :: oX7 (pa 4) (pb 4) (pc 4) (zc 4) (zr 4) (zl 4) (zw 4) (zf 4) :: aI cI (pb 4) 10 (zb 4) :: aI cI (pc 4) 3 (zs 4) :: oX7 (pa 5) (pb 5) (pc 5) (zc 5) (zr 5) (zl 5) (zw 5) (zf 5) :: aI cI (pb 5) 10 (zb 5) :: aI cI (pc 5) 3 (zs 5) :: X) := pm_D hD 23 [6, 0, 1, 2, 7, 8, 9, 10, 11, 12, 13, 3, 4, 5, 14, 15, 16, 17, 18, 19, 20, 21, 22] rfl rfl rfl
  refine lv_aload_n hx hb dX1_restoreLatest_41 rfl (lv_at hl 1 rfl) ?_
  refine lv_dup hx hb dX1_restoreLatest_42 rfl ?_
  refine va_get (D := D) (ci := 1) (v := .int 3) (C := RX1) (T := TX1) (N := 2) hx hb hts hiX1 hown hK hP 0 rfl rfl 0 (by decide) (hts (.fieldLink RX1 18 "LedgeLeaps$History" "size" "I") (List.mem_of_getElem? (i := 1) rfl)) (fun _ h9 => h9) rfl dX1_restoreLatest_43 ?_
  refine lv_iconst (v := 1) hx hb dX1_restoreLatest_46 (by decide) ?_
  refine lv_isub hx hb dX1_restoreLatest_47 ?_
  refine top_i (y := 2) (by decide) ?_
  refine va_put (D := D) (ci := 1) (v := .int 2) (ty := .int) (C := RX1) (T := TX1) (N := 2) hx hb hts hiX1 tyX1 tyX1_ok nmX1 hown hK hP hD hS 0 rfl rfl 0 (by decide) (hts (.fieldLink RX1 18 "LedgeLeaps$History" "size" "I") (List.mem_of_getElem? (i := 1) rfl)) (fun _ h9 => h9) rfl (by decide +kernel) rfl rfl (Nat.le_of_ble_eq_true rfl) dX1_restoreLatest_48 (fun H locs hP hD hS => ?_)
  have hP : va_P D vwCl (oX1 hi 2 hv :: oX7 w wb ws (zc 2) (zr 2) (zl 2) (zw 2) (zf 2) :: aI cI wb 10 u_38.1 :: aI cI ws 3 u_38.2 :: aW cW hv 6 svf :: oX7 (pa 0) (pb 0) (pc 0) (zc 0) (zr 0) (zl 0) (zw 0) (zf 0) :: aI cI (pb 0) 10 (zb 0) :: aI cI (pc 0) 3 (zs 0) :: oX7 (pa 1) (pb 1) (pc 1) (zc 1) (zr 1) (zl 1) (zw 1) (zf 1) :: aI cI (pb 1) 10 (zb 1) :: aI cI (pc 1) 3 (zs 1) :: oX7 (pa 2) (pb 2) (pc 2) (zc 2) (zr 2) (zl 2) (zw 2) (zf 2) :: aI cI (pb 2) 10 (zb 2) :: aI cI (pc 2) 3 (zs 2) :: oX7 (pa 3) (pb 3) (pc 3) (zc 3) (zr 3) (zl 3) (zw 3) (zf 3) :: aI cI (pb 3) 10 (zb 3) :: aI cI (pc 3) 3 (zs 3) :: oX7 (pa 4) (pb 4) (pc 4) (zc 4) (zr 4) (zl 4) (zw 4) (zf 4) :: aI cI (pb 4) 10 (zb 4) :: aI cI (pc 4) 3 (zs 4) :: oX7 (pa 5) (pb 5) (pc 5) (zc 5) (zr 5) (zl 5) (zw 5) (zf 5) :: aI cI (pb 5) 10 (zb 5) :: aI cI (pc 5) 3 (zs 5) :: X) H := hP
  have hD : va_D A (oX1 hi 2 hv :: oX7 w wb ws (zc 2) (zr 2) (zl 2) (zw 2) (zf 2) :: aI cI wb 10 u_38.1 :: aI cI ws 3 u_38.2 :: aW cW hv 6 svf :: oX7 (pa 0) (pb 0) (pc 0) (zc 0) (zr 0) (zl 0) (zw 0) (zf 0) :: aI cI (pb 0) 10 (zb 0) :: aI cI (pc 0) 3 (zs 0) :: oX7 (pa 1) (pb 1) (pc 1) (zc 1) (zr 1) (zl 1) (zw 1) (zf 1) :: aI cI (pb 1) 10 (zb 1) :: aI cI (pc 1) 3 (zs 1) :: oX7 (pa 2) (pb 2) (pc 2) (zc 2) (zr 2) (zl 2) (zw 2) (zf 2) :: aI cI (pb 2) 10 (zb 2) :: aI cI (pc 2) 3 (zs 2) :: oX7 (pa 3) (pb 3) (pc 3) (zc 3) (zr 3) (zl 3) (zw 3) (zf 3) :: aI cI (pb 3) 10 (zb 3) :: aI cI (pc 3) 3 (zs 3) :: oX7 (pa 4) (pb 4) (pc 4) (zc 4) (zr 4) (zl 4) (zw 4) (zf 4) :: aI cI (pb 4) 10 (zb 4) :: aI cI (pc 4) 3 (zs 4) :: oX7 (pa 5) (pb 5) (pc 5) (zc 5) (zr 5) (zl 5) (zw 5) (zf 5) :: aI cI (pb 5) 10 (zb 5) :: aI cI (pc 5) 3 (zs 5) :: X) := hD
  have hPD := blk_back (w := [oX1 hi 2 hv, oX7 w wb ws (zc 2) (zr 2) (zl 2) (zw 2) (zf 2), aI cI wb 10 u_38.1, aI cI ws 3 u_38.2]) (B := [aW cW hv 6 svf, oX7 (pa 0) (pb 0) (pc 0) (zc 0) (zr 0) (zl 0) (zw 0) (zf 0), aI cI (pb 0) 10 (zb 0), aI cI (pc 0) 3 (zs 0), oX7 (pa 1) (pb 1) (pc 1) (zc 1) (zr 1) (zl 1) (zw 1) (zf 1), aI cI (pb 1) 10 (zb 1), aI cI (pc 1) 3 (zs 1), oX7 (pa 2) (pb 2) (pc 2) (zc 2) (zr 2) (zl 2) (zw 2) (zf 2), aI cI (pb 2) 10 (zb 2), aI cI (pc 2) 3 (zs 2), oX7 (pa 3) (pb 3) (pc 3) (zc 3) (zr 3) (zl 3) (zw 3) (zf 3), aI cI (pb 3) 10 (zb 3), aI cI (pc 3) 3 (zs 3), oX7 (pa 4) (pb 4) (pc 4) (zc 4) (zr 4) (zl 4) (zw 4) (zf 4), aI cI (pb 4) 10 (zb 4), aI cI (pc 4) 3 (zs 4), oX7 (pa 5) (pb 5) (pc 5) (zc 5) (zr 5) (zl 5) (zw 5) (zf 5), aI cI (pb 5) 10 (zb 5), aI cI (pc 5) 3 (zs 5)]) hP hD
  have hP := hPD.1
  have hD := hPD.2
  exact W.vret hx hb hr (fun t9 ht9 hW9 => ⟨⟨(zc 2, zr 2, zl 2, zw 2, zf 2, u_38.1, u_38.2), rfl, (hH 2 (by decide)).cong hq_38.1 hq_38.2, by rw [ht9]; exact hP, hD⟩, hS.F ht9⟩) hS.2.2 dX1_restoreLatest_51
set_option maxHeartbeats 4000000 in
set_option maxRecDepth 100000 in
theorem m_restore_4 (l : Launch) (D : va_G) (cI cZ cW cJ : ClassId) (A : Nat → Prop) (X : va_W) (hi hv : Nat) (w wb ws : Nat) (wc wr wl ww wf : Int32) (wbl wse : Nat → Int32) (HR : va_W) (hist : Nat → KS) (hR : HistR cI cW hv hist 4 HR) : Met l yX1_restoreLatest wsX1_restoreLatest ({ frames := 2, cells := 0, slots := 0, locals := 61 }) (va_Pc [.ref hi, .ref w] (wd D (tyL cI cZ cW cJ) A (oX1 hi (nI 4) hv :: oX7 w wb ws wc wr wl ww wf :: aI cI wb 10 wbl :: aI cI ws 3 wse :: (X ++ HR)))) (va_Qv (fun (u : Int32 × Int32 × Int32 × Int32 × Int32 × (Nat → Int32) × (Nat → Int32)) => AbsX (hist 3) u.2.2.2.2.2.1 u.2.2.2.2.2.2 u.1 u.2.1 u.2.2.1 u.2.2.2.1 u.2.2.2.2.1) (fun (u : Int32 × Int32 × Int32 × Int32 × Int32 × (Nat → Int32) × (Nat → Int32)) t => wq D A (oX1 hi (nI 3) hv :: oX7 w wb ws u.1 u.2.1 u.2.2.1 u.2.2.2.1 u.2.2.2.2.1 :: aI cI wb 10 u.2.2.2.2.2.1 :: aI cI ws 3 u.2.2.2.2.2.2 :: (X ++ HR)) t) A) 0 0 A := by
  refine Met.ofW (cc := cX1_restoreLatest) (maxL := 3) (ret := none) (by decide) rfl ?_
  intro p e s m args below meth c s₁ B hml hv
  obtain ⟨rfl, hsz9, hP, hK, hD, hN⟩ := hv
  have hx := B.exec
  have hb := B.bytes
  have hr := B.returns
  have hts := atoms_spec (ws := wsX1_restoreLatest) B.pre
  have hown : s.vm.findClass RX1 = some m.cls := findClass_of_methodNamed B.named
  have hlocks := B.notSynchronized
  have CF : CallFix p m c cX1_restoreLatest 3 s _ wsX1_restoreLatest RX1 := ⟨hx, hb, hml, hown, hts⟩
  have hA : ∀ q : Nat, s.heap.size ≤ q → A q := hsz9
  have hS : va_S A s.heap s.heap [] := va_S.rf
  have hiX1 : ∀ w ∈ u_ws RX1 TX1 2, w ∈ wsX1_restoreLatest := fun _ h => List.mem_cons_of_mem _ (List.mem_append_left _ (List.mem_append_right _ (h)))
  have hl := lv_entry ([.ref hi, .ref w]) (n := 3) (Nat.le_of_ble_eq_true rfl)
  rw [lg_entry_eq]
  generalize (lg_sl ([.ref hi, .ref w]) ++ List.replicate (3 - (lg_sl ([.ref hi, .ref w])).length) Slot.unset).toArray = ls at hl ⊢
  have hl : lv_has ls 3 [(0, .ref hi), (1, .ref w)] := hl
  show W p l e ({ frames := 2, cells := 0, slots := 0, locals := 61 } : Room) s m (([.ref hi, .ref w] : List Value).toArray) below meth c s.heap [] 0 0 (MQ below (va_Qv (fun (u : Int32 × Int32 × Int32 × Int32 × Int32 × (Nat → Int32) × (Nat → Int32)) => AbsX (hist 3) u.2.2.2.2.2.1 u.2.2.2.2.2.2 u.1 u.2.1 u.2.2.1 u.2.2.2.1 u.2.2.2.2.1) (fun (u : Int32 × Int32 × Int32 × Int32 × Int32 × (Nat → Int32) × (Nat → Int32)) t => wq D A (oX1 hi (nI 3) hv :: oX7 w wb ws u.1 u.2.1 u.2.2.1 u.2.2.2.1 u.2.2.2.2.1 :: aI cI wb 10 u.2.2.2.2.2.1 :: aI cI ws 3 u.2.2.2.2.2.2 :: (X ++ HR)) t) A) (([.ref hi, .ref w] : List Value).toArray) s 0 0 A) (F0 m 0 ls [])
  obtain ⟨svf, pa, pb, pc, zb, zs, zc, zr, zl, zw, zf, rfl, hsv, hn6, hH⟩ := hR
  have hPD := blk_front (w := [oX1 hi 4 hv, oX7 w wb ws wc wr wl ww wf, aI cI wb 10 wbl, aI cI ws 3 wse]) hP hD
  have hP : va_P D vwCl (oX1 hi 4 hv :: oX7 w wb ws wc wr wl ww wf :: aI cI wb 10 wbl :: aI cI ws 3 wse :: aW cW hv 6 svf :: oX7 (pa 0) (pb 0) (pc 0) (zc 0) (zr 0) (zl 0) (zw 0) (zf 0) :: aI cI (pb 0) 10 (zb 0) :: aI cI (pc 0) 3 (zs 0) :: oX7 (pa 1) (pb 1) (pc 1) (zc 1) (zr 1) (zl 1) (zw 1) (zf 1) :: aI cI (pb 1) 10 (zb 1) :: aI cI (pc 1) 3 (zs 1) :: oX7 (pa 2) (pb 2) (pc 2) (zc 2) (zr 2) (zl 2) (zw 2) (zf 2) :: aI cI (pb 2) 10 (zb 2) :: aI cI (pc 2) 3 (zs 2) :: oX7 (pa 3) (pb 3) (pc 3) (zc 3) (zr 3) (zl 3) (zw 3) (zf 3) :: aI cI (pb 3) 10 (zb 3) :: aI cI (pc 3) 3 (zs 3) :: oX7 (pa 4) (pb 4) (pc 4) (zc 4) (zr 4) (zl 4) (zw 4) (zf 4) :: aI cI (pb 4) 10 (zb 4) :: aI cI (pc 4) 3 (zs 4) :: oX7 (pa 5) (pb 5) (pc 5) (zc 5) (zr 5) (zl 5) (zw 5) (zf 5) :: aI cI (pb 5) 10 (zb 5) :: aI cI (pc 5) 3 (zs 5) :: X) s.heap := hPD.1
  have hD : va_D A (oX1 hi 4 hv :: oX7 w wb ws wc wr wl ww wf :: aI cI wb 10 wbl :: aI cI ws 3 wse :: aW cW hv 6 svf :: oX7 (pa 0) (pb 0) (pc 0) (zc 0) (zr 0) (zl 0) (zw 0) (zf 0) :: aI cI (pb 0) 10 (zb 0) :: aI cI (pc 0) 3 (zs 0) :: oX7 (pa 1) (pb 1) (pc 1) (zc 1) (zr 1) (zl 1) (zw 1) (zf 1) :: aI cI (pb 1) 10 (zb 1) :: aI cI (pc 1) 3 (zs 1) :: oX7 (pa 2) (pb 2) (pc 2) (zc 2) (zr 2) (zl 2) (zw 2) (zf 2) :: aI cI (pb 2) 10 (zb 2) :: aI cI (pc 2) 3 (zs 2) :: oX7 (pa 3) (pb 3) (pc 3) (zc 3) (zr 3) (zl 3) (zw 3) (zf 3) :: aI cI (pb 3) 10 (zb 3) :: aI cI (pc 3) 3 (zs 3) :: oX7 (pa 4) (pb 4) (pc 4) (zc 4) (zr 4) (zl 4) (zw 4) (zf 4) :: aI cI (pb 4) 10 (zb 4) :: aI cI (pc 4) 3 (zs 4) :: oX7 (pa 5) (pb 5) (pc 5) (zc 5) (zr 5) (zl 5) (zw 5) (zf 5) :: aI cI (pb 5) 10 (zb 5) :: aI cI (pc 5) 3 (zs 5) :: X) := hPD.2
  refine lv_aload_n hx hb dX1_restoreLatest_0 rfl (lv_at hl 0 rfl) ?_
  refine va_get (D := D) (ci := 1) (v := .int 4) (C := RX1) (T := TX1) (N := 2) hx hb hts hiX1 hown hK hP 0 rfl rfl 0 (by decide) (hts (.fieldLink RX1 18 "LedgeLeaps$History" "size" "I") (List.mem_of_getElem? (i := 1) rfl)) (fun _ h9 => h9) rfl dX1_restoreLatest_1 ?_
  have c_4 : ¬ (4 : Int32) ≤ 0 := by decide
  refine lv_if_le (tgt := 30) hx hb dX1_restoreLatest_4 (by decide) (fun q => absurd q c_4) (fun _ => ?_)
  refine lv_aload_n hx hb dX1_restoreLatest_7 rfl (lv_at hl 0 rfl) ?_
  refine va_get (D := D) (ci := 1) (v := .int 4) (C := RX1) (T := TX1) (N := 2) hx hb hts hiX1 hown hK hP 0 rfl rfl 0 (by decide) (hts (.fieldLink RX1 18 "LedgeLeaps$History" "size" "I") (List.mem_of_getElem? (i := 1) rfl)) (fun _ h9 => h9) rfl dX1_restoreLatest_8 ?_
  refine lv_bipush (v := 6) hx hb dX1_restoreLatest_11 (by decide) ?_
  have c_13 : ¬ (6 : Int32) < 4 := by decide
  refine lv_icmp_gt (tgt := 30) hx hb dX1_restoreLatest_13 (by decide) (fun q => absurd q c_13) (fun _ => ?_)
  refine lv_aload_n hx hb dX1_restoreLatest_16 rfl (lv_at hl 0 rfl) ?_
  refine va_get (D := D) (ci := 1) (v := .ref hv) (C := RX1) (T := TX1) (N := 2) hx hb hts hiX1 hown hK hP 0 rfl rfl 1 (by decide) (hts (.fieldLink RX1 11 "LedgeLeaps$History" "saved" "[LLedgeLeaps$World;") (List.mem_of_getElem? (i := 2) rfl)) (fun _ h9 => h9) rfl dX1_restoreLatest_17 ?_
  refine lv_aload_n hx hb dX1_restoreLatest_20 rfl (lv_at hl 0 rfl) ?_
  refine va_get (D := D) (ci := 1) (v := .int 4) (C := RX1) (T := TX1) (N := 2) hx hb hts hiX1 hown hK hP 0 rfl rfl 0 (by decide) (hts (.fieldLink RX1 18 "LedgeLeaps$History" "size" "I") (List.mem_of_getElem? (i := 1) rfl)) (fun _ h9 => h9) rfl dX1_restoreLatest_21 ?_
  refine lv_iconst (v := 1) hx hb dX1_restoreLatest_24 (by decide) ?_
  refine lv_isub hx hb dX1_restoreLatest_25 ?_
  refine top_i (y := 3) (by decide) ?_
  refine va_aldr (v := (pa 3)) hx hb hK hP 4 2 rfl rfl (show ¬ ((3 : Int32) < 0 ∨ 6 ≤ (3 : Int32).toNatClampNeg) by decide) (hsv 3 (by decide)) dX1_restoreLatest_26 ?_
  refine lv_goto (tgt := 31) hx hb dX1_restoreLatest_27 (by decide) ?_
  refine lv_astore_n (lv' := [(2, .ref (pa 3)), (0, .ref hi), (1, .ref w)]) hx hb dX1_restoreLatest_31 rfl hl (by decide) rfl (fun ls hl => ?_)
  refine lv_aload_n hx hb dX1_restoreLatest_32 rfl (lv_at hl 0 rfl) ?_
  refine lv_ifnull hx hb dX1_restoreLatest_33 ?_
  refine lv_aload_n hx hb dX1_restoreLatest_36 rfl (lv_at hl 2 rfl) ?_
  refine lv_aload_n hx hb dX1_restoreLatest_37 rfl (lv_at hl 0 rfl) ?_
  refine cV_v CF hK hN hA hS (cut_of 23 [1, 2, 3, 14, 15, 16, 0, 4, 5, 6, 7, 8, 9, 10, 11, 12, 13, 17, 18, 19, 20, 21, 22] hP hD rfl rfl rfl) (m_becomeLike l D cI cZ cW cJ A (oX1 hi 4 hv :: aW cW hv 6 svf :: oX7 (pa 0) (pb 0) (pc 0) (zc 0) (zr 0) (zl 0) (zw 0) (zf 0) :: aI cI (pb 0) 10 (zb 0) :: aI cI (pc 0) 3 (zs 0) :: oX7 (pa 1) (pb 1) (pc 1) (zc 1) (zr 1) (zl 1) (zw 1) (zf 1) :: aI cI (pb 1) 10 (zb 1) :: aI cI (pc 1) 3 (zs 1) :: oX7 (pa 2) (pb 2) (pc 2) (zc 2) (zr 2) (zl 2) (zw 2) (zf 2) :: aI cI (pb 2) 10 (zb 2) :: aI cI (pc 2) 3 (zs 2) :: oX7 (pa 4) (pb 4) (pc 4) (zc 4) (zr 4) (zl 4) (zw 4) (zf 4) :: aI cI (pb 4) 10 (zb 4) :: aI cI (pc 4) 3 (zs 4) :: oX7 (pa 5) (pb 5) (pc 5) (zc 5) (zr 5) (zl 5) (zw 5) (zf 5) :: aI cI (pb 5) 10 (zb 5) :: aI cI (pc 5) 3 (zs 5) :: X) w wb ws wc wr wl ww wf wbl wse (pa 3) (pb 3) (pc 3) (zc 3) (zr 3) (zl 3) (zw 3) (zf 3) (zb 3) (zs 3)) (cwV 1 hts gX1_restoreLatest_X7_becomeLike rfl rfl rfl (by decide +kernel) ⟨Nat.le_of_ble_eq_true rfl, Nat.le_of_ble_eq_true rfl⟩) (As := [.ref (pa 3)]) (rest := []) (ci := 7) (q0 := 0) rfl rfl rfl hl.1 rfl (Nat.le_of_ble_eq_true rfl) dX1_restoreLatest_38 ⟨Nat.le_of_ble_eq_true rfl, Nat.le_of_ble_eq_true rfl⟩ (fun u_38 H locs hq hP hD hS => ?_)
  have hq_38 : (∀ j, j < 10 → u_38.1 j = (zb 3) j) ∧ (∀ j, j < 3 → u_38.2 j = (zs 3) j) := hq
  have hP : va_P D vwCl (oX1 hi 4 hv :: oX7 w wb ws (zc 3) (zr 3) (zl 3) (zw 3) (zf 3) :: aI cI wb 10 u_38.1 :: aI cI ws 3 u_38.2 :: aW cW hv 6 svf :: oX7 (pa 0) (pb 0) (pc 0) (zc 0) (zr 0) (zl 0) (zw 0) (zf 0) :: aI cI (pb 0) 10 (zb 0) :: aI cI (pc 0) 3 (zs 0) :: oX7 (pa 1) (pb 1) (pc 1) (zc 1) (zr 1) (zl 1) (zw 1) (zf 1) :: aI cI (pb 1) 10 (zb 1) :: aI cI (pc 1) 3 (zs 1) :: oX7 (pa 2) (pb 2) (pc 2) (zc 2) (zr 2) (zl 2) (zw 2) (zf 2) :: aI cI (pb 2) 10 (zb 2) :: aI cI (pc 2) 3 (zs 2) :: oX7 (pa 3) (pb 3) (pc 3) (zc 3) (zr 3) (zl 3) (zw 3) (zf 3) :: aI cI (pb 3) 10 (zb 3) :: aI cI (pc 3) 3 (zs 3) :: oX7 (pa 4) (pb 4) (pc 4) (zc 4) (zr 4) (zl 4) (zw 4) (zf 4) :: aI cI (pb 4) 10 (zb 4) :: aI cI (pc 4) 3 (zs 4) :: oX7 (pa 5) (pb 5) (pc 5) (zc 5) (zr 5) (zl 5) (zw 5) (zf 5) :: aI cI (pb 5) 10 (zb 5) :: aI cI (pc 5) 3 (zs 5) :: X) H := pm_P hP 23 [6, 0, 1, 2, 7, 8, 9, 10, 11, 12, 13, 14, 15, 16, 3, 4, 5, 17, 18, 19, 20, 21, 22] rfl
  have hD : va_D A (oX1 hi 4 hv :: oX7 w wb ws (zc 3) (zr 3) (zl 3) (zw 3) (zf 3) :: aI cI wb 10 u_38.1 :: aI cI ws 3 u_38.2 :: aW cW hv 6 svf :: oX7 (pa 0) (pb 0) (pc 0) (zc 0) (zr 0) (zl 0) (zw 0) (zf 0) :: aI cI (pb 0) 10 (zb 0) :: aI cI (pc 0) 3 (zs 0) :: oX7 (pa 1) (pb 1) (pc 1) (zc 1) (zr 1) (zl 1) (zw 1) (zf 1) :: aI cI (pb 1) 10 (zb 1) :: aI cI (pc 1) 3 (zs 1) :: oX7 (pa 2) (pb 2) (pc 2) (zc 2) (zr 2) (zl 2) (zw 2) (zf 2) :: aI cI (pb 2) 10 (zb 2) :: aI cI (pc 2) 3 (zs 2) :: oX7 (pa 3) (pb 3) (pc 3) (zc 3) (zr 3) (zl 3) (zw 3) (zf 3) :: aI cI (pb 3) 10 (zb 3) :: aI cI (pc 3) 3 (zs 3) :: oX7 (pa 4) (pb 4) (pc 4) (zc 4) (zr 4) (zl 4) (zw 4) (zf 4) :: aI cI (pb 4) 10 (zb 4) :: aI cI (pc 4) 3 (zs 4) :: oX7 (pa 5) (pb 5) (pc 5) (zc 5) (zr 5) (zl 5) (zw 5) (zf 5) :: aI cI (pb 5) 10 (zb 5) :: aI cI (pc 5) 3 (zs 5) :: X) := pm_D hD 23 [6, 0, 1, 2, 7, 8, 9, 10, 11, 12, 13, 14, 15, 16, 3, 4, 5, 17, 18, 19, 20, 21, 22] rfl rfl rfl
  refine lv_aload_n hx hb dX1_restoreLatest_41 rfl (lv_at hl 1 rfl) ?_
  refine lv_dup hx hb dX1_restoreLatest_42 rfl ?_
  refine va_get (D := D) (ci := 1) (v := .int 4) (C := RX1) (T := TX1) (N := 2) hx hb hts hiX1 hown hK hP 0 rfl rfl 0 (by decide) (hts (.fieldLink RX1 18 "LedgeLeaps$History" "size" "I") (List.mem_of_getElem? (i := 1) rfl)) (fun _ h9 => h9) rfl dX1_restoreLatest_43 ?_
  refine lv_iconst (v := 1) hx hb dX1_restoreLatest_46 (by decide) ?_
  refine lv_isub hx hb dX1_restoreLatest_47 ?_
  refine top_i (y := 3) (by decide) ?_
  refine va_put (D := D) (ci := 1) (v := .int 3) (ty := .int) (C := RX1) (T := TX1) (N := 2) hx hb hts hiX1 tyX1 tyX1_ok nmX1 hown hK hP hD hS 0 rfl rfl 0 (by decide) (hts (.fieldLink RX1 18 "LedgeLeaps$History" "size" "I") (List.mem_of_getElem? (i := 1) rfl)) (fun _ h9 => h9) rfl (by decide +kernel) rfl rfl (Nat.le_of_ble_eq_true rfl) dX1_restoreLatest_48 (fun H locs hP hD hS => ?_)
  have hP : va_P D vwCl (oX1 hi 3 hv :: oX7 w wb ws (zc 3) (zr 3) (zl 3) (zw 3) (zf 3) :: aI cI wb 10 u_38.1 :: aI cI ws 3 u_38.2 :: aW cW hv 6 svf :: oX7 (pa 0) (pb 0) (pc 0) (zc 0) (zr 0) (zl 0) (zw 0) (zf 0) :: aI cI (pb 0) 10 (zb 0) :: aI cI (pc 0) 3 (zs 0) :: oX7 (pa 1) (pb 1) (pc 1) (zc 1) (zr 1) (zl 1) (zw 1) (zf 1) :: aI cI (pb 1) 10 (zb 1) :: aI cI (pc 1) 3 (zs 1) :: oX7 (pa 2) (pb 2) (pc 2) (zc 2) (zr 2) (zl 2) (zw 2) (zf 2) :: aI cI (pb 2) 10 (zb 2) :: aI cI (pc 2) 3 (zs 2) :: oX7 (pa 3) (pb 3) (pc 3) (zc 3) (zr 3) (zl 3) (zw 3) (zf 3) :: aI cI (pb 3) 10 (zb 3) :: aI cI (pc 3) 3 (zs 3) :: oX7 (pa 4) (pb 4) (pc 4) (zc 4) (zr 4) (zl 4) (zw 4) (zf 4) :: aI cI (pb 4) 10 (zb 4) :: aI cI (pc 4) 3 (zs 4) :: oX7 (pa 5) (pb 5) (pc 5) (zc 5) (zr 5) (zl 5) (zw 5) (zf 5) :: aI cI (pb 5) 10 (zb 5) :: aI cI (pc 5) 3 (zs 5) :: X) H := hP
  have hD : va_D A (oX1 hi 3 hv :: oX7 w wb ws (zc 3) (zr 3) (zl 3) (zw 3) (zf 3) :: aI cI wb 10 u_38.1 :: aI cI ws 3 u_38.2 :: aW cW hv 6 svf :: oX7 (pa 0) (pb 0) (pc 0) (zc 0) (zr 0) (zl 0) (zw 0) (zf 0) :: aI cI (pb 0) 10 (zb 0) :: aI cI (pc 0) 3 (zs 0) :: oX7 (pa 1) (pb 1) (pc 1) (zc 1) (zr 1) (zl 1) (zw 1) (zf 1) :: aI cI (pb 1) 10 (zb 1) :: aI cI (pc 1) 3 (zs 1) :: oX7 (pa 2) (pb 2) (pc 2) (zc 2) (zr 2) (zl 2) (zw 2) (zf 2) :: aI cI (pb 2) 10 (zb 2) :: aI cI (pc 2) 3 (zs 2) :: oX7 (pa 3) (pb 3) (pc 3) (zc 3) (zr 3) (zl 3) (zw 3) (zf 3) :: aI cI (pb 3) 10 (zb 3) :: aI cI (pc 3) 3 (zs 3) :: oX7 (pa 4) (pb 4) (pc 4) (zc 4) (zr 4) (zl 4) (zw 4) (zf 4) :: aI cI (pb 4) 10 (zb 4) :: aI cI (pc 4) 3 (zs 4) :: oX7 (pa 5) (pb 5) (pc 5) (zc 5) (zr 5) (zl 5) (zw 5) (zf 5) :: aI cI (pb 5) 10 (zb 5) :: aI cI (pc 5) 3 (zs 5) :: X) := hD
  have hPD := blk_back (w := [oX1 hi 3 hv, oX7 w wb ws (zc 3) (zr 3) (zl 3) (zw 3) (zf 3), aI cI wb 10 u_38.1, aI cI ws 3 u_38.2]) (B := [aW cW hv 6 svf, oX7 (pa 0) (pb 0) (pc 0) (zc 0) (zr 0) (zl 0) (zw 0) (zf 0), aI cI (pb 0) 10 (zb 0), aI cI (pc 0) 3 (zs 0), oX7 (pa 1) (pb 1) (pc 1) (zc 1) (zr 1) (zl 1) (zw 1) (zf 1), aI cI (pb 1) 10 (zb 1), aI cI (pc 1) 3 (zs 1), oX7 (pa 2) (pb 2) (pc 2) (zc 2) (zr 2) (zl 2) (zw 2) (zf 2), aI cI (pb 2) 10 (zb 2), aI cI (pc 2) 3 (zs 2), oX7 (pa 3) (pb 3) (pc 3) (zc 3) (zr 3) (zl 3) (zw 3) (zf 3), aI cI (pb 3) 10 (zb 3), aI cI (pc 3) 3 (zs 3), oX7 (pa 4) (pb 4) (pc 4) (zc 4) (zr 4) (zl 4) (zw 4) (zf 4), aI cI (pb 4) 10 (zb 4), aI cI (pc 4) 3 (zs 4), oX7 (pa 5) (pb 5) (pc 5) (zc 5) (zr 5) (zl 5) (zw 5) (zf 5), aI cI (pb 5) 10 (zb 5), aI cI (pc 5) 3 (zs 5)]) hP hD
  have hP := hPD.1
  have hD := hPD.2
  exact W.vret hx hb hr (fun t9 ht9 hW9 => ⟨⟨(zc 3, zr 3, zl 3, zw 3, zf 3, u_38.1, u_38.2), rfl, (hH 3 (by decide)).cong hq_38.1 hq_38.2, by rw [ht9]; exact hP, hD⟩, hS.F ht9⟩) hS.2.2 dX1_restoreLatest_51
set_option maxHeartbeats 4000000 in
set_option maxRecDepth 100000 in
theorem m_restore_5 (l : Launch) (D : va_G) (cI cZ cW cJ : ClassId) (A : Nat → Prop) (X : va_W) (hi hv : Nat) (w wb ws : Nat) (wc wr wl ww wf : Int32) (wbl wse : Nat → Int32) (HR : va_W) (hist : Nat → KS) (hR : HistR cI cW hv hist 5 HR) : Met l yX1_restoreLatest wsX1_restoreLatest ({ frames := 2, cells := 0, slots := 0, locals := 61 }) (va_Pc [.ref hi, .ref w] (wd D (tyL cI cZ cW cJ) A (oX1 hi (nI 5) hv :: oX7 w wb ws wc wr wl ww wf :: aI cI wb 10 wbl :: aI cI ws 3 wse :: (X ++ HR)))) (va_Qv (fun (u : Int32 × Int32 × Int32 × Int32 × Int32 × (Nat → Int32) × (Nat → Int32)) => AbsX (hist 4) u.2.2.2.2.2.1 u.2.2.2.2.2.2 u.1 u.2.1 u.2.2.1 u.2.2.2.1 u.2.2.2.2.1) (fun (u : Int32 × Int32 × Int32 × Int32 × Int32 × (Nat → Int32) × (Nat → Int32)) t => wq D A (oX1 hi (nI 4) hv :: oX7 w wb ws u.1 u.2.1 u.2.2.1 u.2.2.2.1 u.2.2.2.2.1 :: aI cI wb 10 u.2.2.2.2.2.1 :: aI cI ws 3 u.2.2.2.2.2.2 :: (X ++ HR)) t) A) 0 0 A := by
  refine Met.ofW (cc := cX1_restoreLatest) (maxL := 3) (ret := none) (by decide) rfl ?_
  intro p e s m args below meth c s₁ B hml hv
  obtain ⟨rfl, hsz9, hP, hK, hD, hN⟩ := hv
  have hx := B.exec
  have hb := B.bytes
  have hr := B.returns
  have hts := atoms_spec (ws := wsX1_restoreLatest) B.pre
  have hown : s.vm.findClass RX1 = some m.cls := findClass_of_methodNamed B.named
  have hlocks := B.notSynchronized
  have CF : CallFix p m c cX1_restoreLatest 3 s _ wsX1_restoreLatest RX1 := ⟨hx, hb, hml, hown, hts⟩
  have hA : ∀ q : Nat, s.heap.size ≤ q → A q := hsz9
  have hS : va_S A s.heap s.heap [] := va_S.rf
  have hiX1 : ∀ w ∈ u_ws RX1 TX1 2, w ∈ wsX1_restoreLatest := fun _ h => List.mem_cons_of_mem _ (List.mem_append_left _ (List.mem_append_right _ (h)))
  have hl := lv_entry ([.ref hi, .ref w]) (n := 3) (Nat.le_of_ble_eq_true rfl)
  rw [lg_entry_eq]
  generalize (lg_sl ([.ref hi, .ref w]) ++ List.replicate (3 - (lg_sl ([.ref hi, .ref w])).length) Slot.unset).toArray = ls at hl ⊢
  have hl : lv_has ls 3 [(0, .ref hi), (1, .ref w)] := hl
  show W p l e ({ frames := 2, cells := 0, slots := 0, locals := 61 } : Room) s m (([.ref hi, .ref w] : List Value).toArray) below meth c s.heap [] 0 0 (MQ below (va_Qv (fun (u : Int32 × Int32 × Int32 × Int32 × Int32 × (Nat → Int32) × (Nat → Int32)) => AbsX (hist 4) u.2.2.2.2.2.1 u.2.2.2.2.2.2 u.1 u.2.1 u.2.2.1 u.2.2.2.1 u.2.2.2.2.1) (fun (u : Int32 × Int32 × Int32 × Int32 × Int32 × (Nat → Int32) × (Nat → Int32)) t => wq D A (oX1 hi (nI 4) hv :: oX7 w wb ws u.1 u.2.1 u.2.2.1 u.2.2.2.1 u.2.2.2.2.1 :: aI cI wb 10 u.2.2.2.2.2.1 :: aI cI ws 3 u.2.2.2.2.2.2 :: (X ++ HR)) t) A) (([.ref hi, .ref w] : List Value).toArray) s 0 0 A) (F0 m 0 ls [])
  obtain ⟨svf, pa, pb, pc, zb, zs, zc, zr, zl, zw, zf, rfl, hsv, hn6, hH⟩ := hR
  have hPD := blk_front (w := [oX1 hi 5 hv, oX7 w wb ws wc wr wl ww wf, aI cI wb 10 wbl, aI cI ws 3 wse]) hP hD
  have hP : va_P D vwCl (oX1 hi 5 hv :: oX7 w wb ws wc wr wl ww wf :: aI cI wb 10 wbl :: aI cI ws 3 wse :: aW cW hv 6 svf :: oX7 (pa 0) (pb 0) (pc 0) (zc 0) (zr 0) (zl 0) (zw 0) (zf 0) :: aI cI (pb 0) 10 (zb 0) :: aI cI (pc 0) 3 (zs 0) :: oX7 (pa 1) (pb 1) (pc 1) (zc 1) (zr 1) (zl 1) (zw 1) (zf 1) :: aI cI (pb 1) 10 (zb 1) :: aI cI (pc 1) 3 (zs 1) :: oX7 (pa 2) (pb 2) (pc 2) (zc 2) (zr 2) (zl 2) (zw 2) (zf 2) :: aI cI (pb 2) 10 (zb 2) :: aI cI (pc 2) 3 (zs 2) :: oX7 (pa 3) (pb 3) (pc 3) (zc 3) (zr 3) (zl 3) (zw 3) (zf 3) :: aI cI (pb 3) 10 (zb 3) :: aI cI (pc 3) 3 (zs 3) :: oX7 (pa 4) (pb 4) (pc 4) (zc 4) (zr 4) (zl 4) (zw 4) (zf 4) :: aI cI (pb 4) 10 (zb 4) :: aI cI (pc 4) 3 (zs 4) :: oX7 (pa 5) (pb 5) (pc 5) (zc 5) (zr 5) (zl 5) (zw 5) (zf 5) :: aI cI (pb 5) 10 (zb 5) :: aI cI (pc 5) 3 (zs 5) :: X) s.heap := hPD.1
  have hD : va_D A (oX1 hi 5 hv :: oX7 w wb ws wc wr wl ww wf :: aI cI wb 10 wbl :: aI cI ws 3 wse :: aW cW hv 6 svf :: oX7 (pa 0) (pb 0) (pc 0) (zc 0) (zr 0) (zl 0) (zw 0) (zf 0) :: aI cI (pb 0) 10 (zb 0) :: aI cI (pc 0) 3 (zs 0) :: oX7 (pa 1) (pb 1) (pc 1) (zc 1) (zr 1) (zl 1) (zw 1) (zf 1) :: aI cI (pb 1) 10 (zb 1) :: aI cI (pc 1) 3 (zs 1) :: oX7 (pa 2) (pb 2) (pc 2) (zc 2) (zr 2) (zl 2) (zw 2) (zf 2) :: aI cI (pb 2) 10 (zb 2) :: aI cI (pc 2) 3 (zs 2) :: oX7 (pa 3) (pb 3) (pc 3) (zc 3) (zr 3) (zl 3) (zw 3) (zf 3) :: aI cI (pb 3) 10 (zb 3) :: aI cI (pc 3) 3 (zs 3) :: oX7 (pa 4) (pb 4) (pc 4) (zc 4) (zr 4) (zl 4) (zw 4) (zf 4) :: aI cI (pb 4) 10 (zb 4) :: aI cI (pc 4) 3 (zs 4) :: oX7 (pa 5) (pb 5) (pc 5) (zc 5) (zr 5) (zl 5) (zw 5) (zf 5) :: aI cI (pb 5) 10 (zb 5) :: aI cI (pc 5) 3 (zs 5) :: X) := hPD.2
  refine lv_aload_n hx hb dX1_restoreLatest_0 rfl (lv_at hl 0 rfl) ?_
  refine va_get (D := D) (ci := 1) (v := .int 5) (C := RX1) (T := TX1) (N := 2) hx hb hts hiX1 hown hK hP 0 rfl rfl 0 (by decide) (hts (.fieldLink RX1 18 "LedgeLeaps$History" "size" "I") (List.mem_of_getElem? (i := 1) rfl)) (fun _ h9 => h9) rfl dX1_restoreLatest_1 ?_
  have c_4 : ¬ (5 : Int32) ≤ 0 := by decide
  refine lv_if_le (tgt := 30) hx hb dX1_restoreLatest_4 (by decide) (fun q => absurd q c_4) (fun _ => ?_)
  refine lv_aload_n hx hb dX1_restoreLatest_7 rfl (lv_at hl 0 rfl) ?_
  refine va_get (D := D) (ci := 1) (v := .int 5) (C := RX1) (T := TX1) (N := 2) hx hb hts hiX1 hown hK hP 0 rfl rfl 0 (by decide) (hts (.fieldLink RX1 18 "LedgeLeaps$History" "size" "I") (List.mem_of_getElem? (i := 1) rfl)) (fun _ h9 => h9) rfl dX1_restoreLatest_8 ?_
  refine lv_bipush (v := 6) hx hb dX1_restoreLatest_11 (by decide) ?_
  have c_13 : ¬ (6 : Int32) < 5 := by decide
  refine lv_icmp_gt (tgt := 30) hx hb dX1_restoreLatest_13 (by decide) (fun q => absurd q c_13) (fun _ => ?_)
  refine lv_aload_n hx hb dX1_restoreLatest_16 rfl (lv_at hl 0 rfl) ?_
  refine va_get (D := D) (ci := 1) (v := .ref hv) (C := RX1) (T := TX1) (N := 2) hx hb hts hiX1 hown hK hP 0 rfl rfl 1 (by decide) (hts (.fieldLink RX1 11 "LedgeLeaps$History" "saved" "[LLedgeLeaps$World;") (List.mem_of_getElem? (i := 2) rfl)) (fun _ h9 => h9) rfl dX1_restoreLatest_17 ?_
  refine lv_aload_n hx hb dX1_restoreLatest_20 rfl (lv_at hl 0 rfl) ?_
  refine va_get (D := D) (ci := 1) (v := .int 5) (C := RX1) (T := TX1) (N := 2) hx hb hts hiX1 hown hK hP 0 rfl rfl 0 (by decide) (hts (.fieldLink RX1 18 "LedgeLeaps$History" "size" "I") (List.mem_of_getElem? (i := 1) rfl)) (fun _ h9 => h9) rfl dX1_restoreLatest_21 ?_
  refine lv_iconst (v := 1) hx hb dX1_restoreLatest_24 (by decide) ?_
  refine lv_isub hx hb dX1_restoreLatest_25 ?_
  refine top_i (y := 4) (by decide) ?_
  refine va_aldr (v := (pa 4)) hx hb hK hP 4 2 rfl rfl (show ¬ ((4 : Int32) < 0 ∨ 6 ≤ (4 : Int32).toNatClampNeg) by decide) (hsv 4 (by decide)) dX1_restoreLatest_26 ?_
  refine lv_goto (tgt := 31) hx hb dX1_restoreLatest_27 (by decide) ?_
  refine lv_astore_n (lv' := [(2, .ref (pa 4)), (0, .ref hi), (1, .ref w)]) hx hb dX1_restoreLatest_31 rfl hl (by decide) rfl (fun ls hl => ?_)
  refine lv_aload_n hx hb dX1_restoreLatest_32 rfl (lv_at hl 0 rfl) ?_
  refine lv_ifnull hx hb dX1_restoreLatest_33 ?_
  refine lv_aload_n hx hb dX1_restoreLatest_36 rfl (lv_at hl 2 rfl) ?_
  refine lv_aload_n hx hb dX1_restoreLatest_37 rfl (lv_at hl 0 rfl) ?_
  refine cV_v CF hK hN hA hS (cut_of 23 [1, 2, 3, 17, 18, 19, 0, 4, 5, 6, 7, 8, 9, 10, 11, 12, 13, 14, 15, 16, 20, 21, 22] hP hD rfl rfl rfl) (m_becomeLike l D cI cZ cW cJ A (oX1 hi 5 hv :: aW cW hv 6 svf :: oX7 (pa 0) (pb 0) (pc 0) (zc 0) (zr 0) (zl 0) (zw 0) (zf 0) :: aI cI (pb 0) 10 (zb 0) :: aI cI (pc 0) 3 (zs 0) :: oX7 (pa 1) (pb 1) (pc 1) (zc 1) (zr 1) (zl 1) (zw 1) (zf 1) :: aI cI (pb 1) 10 (zb 1) :: aI cI (pc 1) 3 (zs 1) :: oX7 (pa 2) (pb 2) (pc 2) (zc 2) (zr 2) (zl 2) (zw 2) (zf 2) :: aI cI (pb 2) 10 (zb 2) :: aI cI (pc 2) 3 (zs 2) :: oX7 (pa 3) (pb 3) (pc 3) (zc 3) (zr 3) (zl 3) (zw 3) (zf 3) :: aI cI (pb 3) 10 (zb 3) :: aI cI (pc 3) 3 (zs 3) :: oX7 (pa 5) (pb 5) (pc 5) (zc 5) (zr 5) (zl 5) (zw 5) (zf 5) :: aI cI (pb 5) 10 (zb 5) :: aI cI (pc 5) 3 (zs 5) :: X) w wb ws wc wr wl ww wf wbl wse (pa 4) (pb 4) (pc 4) (zc 4) (zr 4) (zl 4) (zw 4) (zf 4) (zb 4) (zs 4)) (cwV 1 hts gX1_restoreLatest_X7_becomeLike rfl rfl rfl (by decide +kernel) ⟨Nat.le_of_ble_eq_true rfl, Nat.le_of_ble_eq_true rfl⟩) (As := [.ref (pa 4)]) (rest := []) (ci := 7) (q0 := 0) rfl rfl rfl hl.1 rfl (Nat.le_of_ble_eq_true rfl) dX1_restoreLatest_38 ⟨Nat.le_of_ble_eq_true rfl, Nat.le_of_ble_eq_true rfl⟩ (fun u_38 H locs hq hP hD hS => ?_)
  have hq_38 : (∀ j, j < 10 → u_38.1 j = (zb 4) j) ∧ (∀ j, j < 3 → u_38.2 j = (zs 4) j) := hq
  have hP : va_P D vwCl (oX1 hi 5 hv :: oX7 w wb ws (zc 4) (zr 4) (zl 4) (zw 4) (zf 4) :: aI cI wb 10 u_38.1 :: aI cI ws 3 u_38.2 :: aW cW hv 6 svf :: oX7 (pa 0) (pb 0) (pc 0) (zc 0) (zr 0) (zl 0) (zw 0) (zf 0) :: aI cI (pb 0) 10 (zb 0) :: aI cI (pc 0) 3 (zs 0) :: oX7 (pa 1) (pb 1) (pc 1) (zc 1) (zr 1) (zl 1) (zw 1) (zf 1) :: aI cI (pb 1) 10 (zb 1) :: aI cI (pc 1) 3 (zs 1) :: oX7 (pa 2) (pb 2) (pc 2) (zc 2) (zr 2) (zl 2) (zw 2) (zf 2) :: aI cI (pb 2) 10 (zb 2) :: aI cI (pc 2) 3 (zs 2) :: oX7 (pa 3) (pb 3) (pc 3) (zc 3) (zr 3) (zl 3) (zw 3) (zf 3) :: aI cI (pb 3) 10 (zb 3) :: aI cI (pc 3) 3 (zs 3) :: oX7 (pa 4) (pb 4) (pc 4) (zc 4) (zr 4) (zl 4) (zw 4) (zf 4) :: aI cI (pb 4) 10 (zb 4) :: aI cI (pc 4) 3 (zs 4) :: oX7 (pa 5) (pb 5) (pc 5) (zc 5) (zr 5) (zl 5) (zw 5) (zf 5) :: aI cI (pb 5) 10 (zb 5) :: aI cI (pc 5) 3 (zs 5) :: X) H := pm_P hP 23 [6, 0, 1, 2, 7, 8, 9, 10, 11, 12, 13, 14, 15, 16, 17, 18, 19, 3, 4, 5, 20, 21, 22] rfl
  have hD : va_D A (oX1 hi 5 hv :: oX7 w wb ws (zc 4) (zr 4) (zl 4) (zw 4) (zf 4) :: aI cI wb 10 u_38.1 :: aI cI ws 3 u_38.2 :: aW cW hv 6 svf :: oX7 (pa 0) (pb 0) (pc 0) (zc 0) (zr 0) (zl 0) (zw 0) (zf 0) :: aI cI (pb 0) 10 (zb 0) :: aI cI (pc 0) 3 (zs 0) :: oX7 (pa 1) (pb 1) (pc 1) (zc 1) (zr 1) (zl 1) (zw 1) (zf 1) :: aI cI (pb 1) 10 (zb 1) :: aI cI (pc 1) 3 (zs 1) :: oX7 (pa 2) (pb 2) (pc 2) (zc 2) (zr 2) (zl 2) (zw 2) (zf 2) :: aI cI (pb 2) 10 (zb 2) :: aI cI (pc 2) 3 (zs 2) :: oX7 (pa 3) (pb 3) (pc 3) (zc 3) (zr 3) (zl 3) (zw 3) (zf 3) :: aI cI (pb 3) 10 (zb 3) :: aI cI (pc 3) 3 (zs 3) :: oX7 (pa 4) (pb 4) (pc 4) (zc 4) (zr 4) (zl 4) (zw 4) (zf 4) :: aI cI (pb 4) 10 (zb 4) :: aI cI (pc 4) 3 (zs 4) :: oX7 (pa 5) (pb 5) (pc 5) (zc 5) (zr 5) (zl 5) (zw 5) (zf 5) :: aI cI (pb 5) 10 (zb 5) :: aI cI (pc 5) 3 (zs 5) :: X) := pm_D hD 23 [6, 0, 1, 2, 7, 8, 9, 10, 11, 12, 13, 14, 15, 16, 17, 18, 19, 3, 4, 5, 20, 21, 22] rfl rfl rfl
  refine lv_aload_n hx hb dX1_restoreLatest_41 rfl (lv_at hl 1 rfl) ?_
  refine lv_dup hx hb dX1_restoreLatest_42 rfl ?_
  refine va_get (D := D) (ci := 1) (v := .int 5) (C := RX1) (T := TX1) (N := 2) hx hb hts hiX1 hown hK hP 0 rfl rfl 0 (by decide) (hts (.fieldLink RX1 18 "LedgeLeaps$History" "size" "I") (List.mem_of_getElem? (i := 1) rfl)) (fun _ h9 => h9) rfl dX1_restoreLatest_43 ?_
  refine lv_iconst (v := 1) hx hb dX1_restoreLatest_46 (by decide) ?_
  refine lv_isub hx hb dX1_restoreLatest_47 ?_
  refine top_i (y := 4) (by decide) ?_
  refine va_put (D := D) (ci := 1) (v := .int 4) (ty := .int) (C := RX1) (T := TX1) (N := 2) hx hb hts hiX1 tyX1 tyX1_ok nmX1 hown hK hP hD hS 0 rfl rfl 0 (by decide) (hts (.fieldLink RX1 18 "LedgeLeaps$History" "size" "I") (List.mem_of_getElem? (i := 1) rfl)) (fun _ h9 => h9) rfl (by decide +kernel) rfl rfl (Nat.le_of_ble_eq_true rfl) dX1_restoreLatest_48 (fun H locs hP hD hS => ?_)
  have hP : va_P D vwCl (oX1 hi 4 hv :: oX7 w wb ws (zc 4) (zr 4) (zl 4) (zw 4) (zf 4) :: aI cI wb 10 u_38.1 :: aI cI ws 3 u_38.2 :: aW cW hv 6 svf :: oX7 (pa 0) (pb 0) (pc 0) (zc 0) (zr 0) (zl 0) (zw 0) (zf 0) :: aI cI (pb 0) 10 (zb 0) :: aI cI (pc 0) 3 (zs 0) :: oX7 (pa 1) (pb 1) (pc 1) (zc 1) (zr 1) (zl 1) (zw 1) (zf 1) :: aI cI (pb 1) 10 (zb 1) :: aI cI (pc 1) 3 (zs 1) :: oX7 (pa 2) (pb 2) (pc 2) (zc 2) (zr 2) (zl 2) (zw 2) (zf 2) :: aI cI (pb 2) 10 (zb 2) :: aI cI (pc 2) 3 (zs 2) :: oX7 (pa 3) (pb 3) (pc 3) (zc 3) (zr 3) (zl 3) (zw 3) (zf 3) :: aI cI (pb 3) 10 (zb 3) :: aI cI (pc 3) 3 (zs 3) :: oX7 (pa 4) (pb 4) (pc 4) (zc 4) (zr 4) (zl 4) (zw 4) (zf 4) :: aI cI (pb 4) 10 (zb 4) :: aI cI (pc 4) 3 (zs 4) :: oX7 (pa 5) (pb 5) (pc 5) (zc 5) (zr 5) (zl 5) (zw 5) (zf 5) :: aI cI (pb 5) 10 (zb 5) :: aI cI (pc 5) 3 (zs 5) :: X) H := hP
  have hD : va_D A (oX1 hi 4 hv :: oX7 w wb ws (zc 4) (zr 4) (zl 4) (zw 4) (zf 4) :: aI cI wb 10 u_38.1 :: aI cI ws 3 u_38.2 :: aW cW hv 6 svf :: oX7 (pa 0) (pb 0) (pc 0) (zc 0) (zr 0) (zl 0) (zw 0) (zf 0) :: aI cI (pb 0) 10 (zb 0) :: aI cI (pc 0) 3 (zs 0) :: oX7 (pa 1) (pb 1) (pc 1) (zc 1) (zr 1) (zl 1) (zw 1) (zf 1) :: aI cI (pb 1) 10 (zb 1) :: aI cI (pc 1) 3 (zs 1) :: oX7 (pa 2) (pb 2) (pc 2) (zc 2) (zr 2) (zl 2) (zw 2) (zf 2) :: aI cI (pb 2) 10 (zb 2) :: aI cI (pc 2) 3 (zs 2) :: oX7 (pa 3) (pb 3) (pc 3) (zc 3) (zr 3) (zl 3) (zw 3) (zf 3) :: aI cI (pb 3) 10 (zb 3) :: aI cI (pc 3) 3 (zs 3) :: oX7 (pa 4) (pb 4) (pc 4) (zc 4) (zr 4) (zl 4) (zw 4) (zf 4) :: aI cI (pb 4) 10 (zb 4) :: aI cI (pc 4) 3 (zs 4) :: oX7 (pa 5) (pb 5) (pc 5) (zc 5) (zr 5) (zl 5) (zw 5) (zf 5) :: aI cI (pb 5) 10 (zb 5) :: aI cI (pc 5) 3 (zs 5) :: X) := hD
  have hPD := blk_back (w := [oX1 hi 4 hv, oX7 w wb ws (zc 4) (zr 4) (zl 4) (zw 4) (zf 4), aI cI wb 10 u_38.1, aI cI ws 3 u_38.2]) (B := [aW cW hv 6 svf, oX7 (pa 0) (pb 0) (pc 0) (zc 0) (zr 0) (zl 0) (zw 0) (zf 0), aI cI (pb 0) 10 (zb 0), aI cI (pc 0) 3 (zs 0), oX7 (pa 1) (pb 1) (pc 1) (zc 1) (zr 1) (zl 1) (zw 1) (zf 1), aI cI (pb 1) 10 (zb 1), aI cI (pc 1) 3 (zs 1), oX7 (pa 2) (pb 2) (pc 2) (zc 2) (zr 2) (zl 2) (zw 2) (zf 2), aI cI (pb 2) 10 (zb 2), aI cI (pc 2) 3 (zs 2), oX7 (pa 3) (pb 3) (pc 3) (zc 3) (zr 3) (zl 3) (zw 3) (zf 3), aI cI (pb 3) 10 (zb 3), aI cI (pc 3) 3 (zs 3), oX7 (pa 4) (pb 4) (pc 4) (zc 4) (zr 4) (zl 4) (zw 4) (zf 4), aI cI (pb 4) 10 (zb 4), aI cI (pc 4) 3 (zs 4), oX7 (pa 5) (pb 5) (pc 5) (zc 5) (zr 5) (zl 5) (zw 5) (zf 5), aI cI (pb 5) 10 (zb 5), aI cI (pc 5) 3 (zs 5)]) hP hD
  have hP := hPD.1
  have hD := hPD.2
  exact W.vret hx hb hr (fun t9 ht9 hW9 => ⟨⟨(zc 4, zr 4, zl 4, zw 4, zf 4, u_38.1, u_38.2), rfl, (hH 4 (by decide)).cong hq_38.1 hq_38.2, by rw [ht9]; exact hP, hD⟩, hS.F ht9⟩) hS.2.2 dX1_restoreLatest_51
set_option maxHeartbeats 4000000 in
set_option maxRecDepth 100000 in
theorem m_restore_6 (l : Launch) (D : va_G) (cI cZ cW cJ : ClassId) (A : Nat → Prop) (X : va_W) (hi hv : Nat) (w wb ws : Nat) (wc wr wl ww wf : Int32) (wbl wse : Nat → Int32) (HR : va_W) (hist : Nat → KS) (hR : HistR cI cW hv hist 6 HR) : Met l yX1_restoreLatest wsX1_restoreLatest ({ frames := 2, cells := 0, slots := 0, locals := 61 }) (va_Pc [.ref hi, .ref w] (wd D (tyL cI cZ cW cJ) A (oX1 hi (nI 6) hv :: oX7 w wb ws wc wr wl ww wf :: aI cI wb 10 wbl :: aI cI ws 3 wse :: (X ++ HR)))) (va_Qv (fun (u : Int32 × Int32 × Int32 × Int32 × Int32 × (Nat → Int32) × (Nat → Int32)) => AbsX (hist 5) u.2.2.2.2.2.1 u.2.2.2.2.2.2 u.1 u.2.1 u.2.2.1 u.2.2.2.1 u.2.2.2.2.1) (fun (u : Int32 × Int32 × Int32 × Int32 × Int32 × (Nat → Int32) × (Nat → Int32)) t => wq D A (oX1 hi (nI 5) hv :: oX7 w wb ws u.1 u.2.1 u.2.2.1 u.2.2.2.1 u.2.2.2.2.1 :: aI cI wb 10 u.2.2.2.2.2.1 :: aI cI ws 3 u.2.2.2.2.2.2 :: (X ++ HR)) t) A) 0 0 A := by
  refine Met.ofW (cc := cX1_restoreLatest) (maxL := 3) (ret := none) (by decide) rfl ?_
  intro p e s m args below meth c s₁ B hml hv
  obtain ⟨rfl, hsz9, hP, hK, hD, hN⟩ := hv
  have hx := B.exec
  have hb := B.bytes
  have hr := B.returns
  have hts := atoms_spec (ws := wsX1_restoreLatest) B.pre
  have hown : s.vm.findClass RX1 = some m.cls := findClass_of_methodNamed B.named
  have hlocks := B.notSynchronized
  have CF : CallFix p m c cX1_restoreLatest 3 s _ wsX1_restoreLatest RX1 := ⟨hx, hb, hml, hown, hts⟩
  have hA : ∀ q : Nat, s.heap.size ≤ q → A q := hsz9
  have hS : va_S A s.heap s.heap [] := va_S.rf
  have hiX1 : ∀ w ∈ u_ws RX1 TX1 2, w ∈ wsX1_restoreLatest := fun _ h => List.mem_cons_of_mem _ (List.mem_append_left _ (List.mem_append_right _ (h)))
  have hl := lv_entry ([.ref hi, .ref w]) (n := 3) (Nat.le_of_ble_eq_true rfl)
  rw [lg_entry_eq]
  generalize (lg_sl ([.ref hi, .ref w]) ++ List.replicate (3 - (lg_sl ([.ref hi, .ref w])).length) Slot.unset).toArray = ls at hl ⊢
  have hl : lv_has ls 3 [(0, .ref hi), (1, .ref w)] := hl
  show W p l e ({ frames := 2, cells := 0, slots := 0, locals := 61 } : Room) s m (([.ref hi, .ref w] : List Value).toArray) below meth c s.heap [] 0 0 (MQ below (va_Qv (fun (u : Int32 × Int32 × Int32 × Int32 × Int32 × (Nat → Int32) × (Nat → Int32)) => AbsX (hist 5) u.2.2.2.2.2.1 u.2.2.2.2.2.2 u.1 u.2.1 u.2.2.1 u.2.2.2.1 u.2.2.2.2.1) (fun (u : Int32 × Int32 × Int32 × Int32 × Int32 × (Nat → Int32) × (Nat → Int32)) t => wq D A (oX1 hi (nI 5) hv :: oX7 w wb ws u.1 u.2.1 u.2.2.1 u.2.2.2.1 u.2.2.2.2.1 :: aI cI wb 10 u.2.2.2.2.2.1 :: aI cI ws 3 u.2.2.2.2.2.2 :: (X ++ HR)) t) A) (([.ref hi, .ref w] : List Value).toArray) s 0 0 A) (F0 m 0 ls [])
  obtain ⟨svf, pa, pb, pc, zb, zs, zc, zr, zl, zw, zf, rfl, hsv, hn6, hH⟩ := hR
  have hPD := blk_front (w := [oX1 hi 6 hv, oX7 w wb ws wc wr wl ww wf, aI cI wb 10 wbl, aI cI ws 3 wse]) hP hD
  have hP : va_P D vwCl (oX1 hi 6 hv :: oX7 w wb ws wc wr wl ww wf :: aI cI wb 10 wbl :: aI cI ws 3 wse :: aW cW hv 6 svf :: oX7 (pa 0) (pb 0) (pc 0) (zc 0) (zr 0) (zl 0) (zw 0) (zf 0) :: aI cI (pb 0) 10 (zb 0) :: aI cI (pc 0) 3 (zs 0) :: oX7 (pa 1) (pb 1) (pc 1) (zc 1) (zr 1) (zl 1) (zw 1) (zf 1) :: aI cI (pb 1) 10 (zb 1) :: aI cI (pc 1) 3 (zs 1) :: oX7 (pa 2) (pb 2) (pc 2) (zc 2) (zr 2) (zl 2) (zw 2) (zf 2) :: aI cI (pb 2) 10 (zb 2) :: aI cI (pc 2) 3 (zs 2) :: oX7 (pa 3) (pb 3) (pc 3) (zc 3) (zr 3) (zl 3) (zw 3) (zf 3) :: aI cI (pb 3) 10 (zb 3) :: aI cI (pc 3) 3 (zs 3) :: oX7 (pa 4) (pb 4) (pc 4) (zc 4) (zr 4) (zl 4) (zw 4) (zf 4) :: aI cI (pb 4) 10 (zb 4) :: aI cI (pc 4) 3 (zs 4) :: oX7 (pa 5) (pb 5) (pc 5) (zc 5) (zr 5) (zl 5) (zw 5) (zf 5) :: aI cI (pb 5) 10 (zb 5) :: aI cI (pc 5) 3 (zs 5) :: X) s.heap := hPD.1
  have hD : va_D A (oX1 hi 6 hv :: oX7 w wb ws wc wr wl ww wf :: aI cI wb 10 wbl :: aI cI ws 3 wse :: aW cW hv 6 svf :: oX7 (pa 0) (pb 0) (pc 0) (zc 0) (zr 0) (zl 0) (zw 0) (zf 0) :: aI cI (pb 0) 10 (zb 0) :: aI cI (pc 0) 3 (zs 0) :: oX7 (pa 1) (pb 1) (pc 1) (zc 1) (zr 1) (zl 1) (zw 1) (zf 1) :: aI cI (pb 1) 10 (zb 1) :: aI cI (pc 1) 3 (zs 1) :: oX7 (pa 2) (pb 2) (pc 2) (zc 2) (zr 2) (zl 2) (zw 2) (zf 2) :: aI cI (pb 2) 10 (zb 2) :: aI cI (pc 2) 3 (zs 2) :: oX7 (pa 3) (pb 3) (pc 3) (zc 3) (zr 3) (zl 3) (zw 3) (zf 3) :: aI cI (pb 3) 10 (zb 3) :: aI cI (pc 3) 3 (zs 3) :: oX7 (pa 4) (pb 4) (pc 4) (zc 4) (zr 4) (zl 4) (zw 4) (zf 4) :: aI cI (pb 4) 10 (zb 4) :: aI cI (pc 4) 3 (zs 4) :: oX7 (pa 5) (pb 5) (pc 5) (zc 5) (zr 5) (zl 5) (zw 5) (zf 5) :: aI cI (pb 5) 10 (zb 5) :: aI cI (pc 5) 3 (zs 5) :: X) := hPD.2
  refine lv_aload_n hx hb dX1_restoreLatest_0 rfl (lv_at hl 0 rfl) ?_
  refine va_get (D := D) (ci := 1) (v := .int 6) (C := RX1) (T := TX1) (N := 2) hx hb hts hiX1 hown hK hP 0 rfl rfl 0 (by decide) (hts (.fieldLink RX1 18 "LedgeLeaps$History" "size" "I") (List.mem_of_getElem? (i := 1) rfl)) (fun _ h9 => h9) rfl dX1_restoreLatest_1 ?_
  have c_4 : ¬ (6 : Int32) ≤ 0 := by decide
  refine lv_if_le (tgt := 30) hx hb dX1_restoreLatest_4 (by decide) (fun q => absurd q c_4) (fun _ => ?_)
  refine lv_aload_n hx hb dX1_restoreLatest_7 rfl (lv_at hl 0 rfl) ?_
  refine va_get (D := D) (ci := 1) (v := .int 6) (C := RX1) (T := TX1) (N := 2) hx hb hts hiX1 hown hK hP 0 rfl rfl 0 (by decide) (hts (.fieldLink RX1 18 "LedgeLeaps$History" "size" "I") (List.mem_of_getElem? (i := 1) rfl)) (fun _ h9 => h9) rfl dX1_restoreLatest_8 ?_
  refine lv_bipush (v := 6) hx hb dX1_restoreLatest_11 (by decide) ?_
  have c_13 : ¬ (6 : Int32) < 6 := by decide
  refine lv_icmp_gt (tgt := 30) hx hb dX1_restoreLatest_13 (by decide) (fun q => absurd q c_13) (fun _ => ?_)
  refine lv_aload_n hx hb dX1_restoreLatest_16 rfl (lv_at hl 0 rfl) ?_
  refine va_get (D := D) (ci := 1) (v := .ref hv) (C := RX1) (T := TX1) (N := 2) hx hb hts hiX1 hown hK hP 0 rfl rfl 1 (by decide) (hts (.fieldLink RX1 11 "LedgeLeaps$History" "saved" "[LLedgeLeaps$World;") (List.mem_of_getElem? (i := 2) rfl)) (fun _ h9 => h9) rfl dX1_restoreLatest_17 ?_
  refine lv_aload_n hx hb dX1_restoreLatest_20 rfl (lv_at hl 0 rfl) ?_
  refine va_get (D := D) (ci := 1) (v := .int 6) (C := RX1) (T := TX1) (N := 2) hx hb hts hiX1 hown hK hP 0 rfl rfl 0 (by decide) (hts (.fieldLink RX1 18 "LedgeLeaps$History" "size" "I") (List.mem_of_getElem? (i := 1) rfl)) (fun _ h9 => h9) rfl dX1_restoreLatest_21 ?_
  refine lv_iconst (v := 1) hx hb dX1_restoreLatest_24 (by decide) ?_
  refine lv_isub hx hb dX1_restoreLatest_25 ?_
  refine top_i (y := 5) (by decide) ?_
  refine va_aldr (v := (pa 5)) hx hb hK hP 4 2 rfl rfl (show ¬ ((5 : Int32) < 0 ∨ 6 ≤ (5 : Int32).toNatClampNeg) by decide) (hsv 5 (by decide)) dX1_restoreLatest_26 ?_
  refine lv_goto (tgt := 31) hx hb dX1_restoreLatest_27 (by decide) ?_
  refine lv_astore_n (lv' := [(2, .ref (pa 5)), (0, .ref hi), (1, .ref w)]) hx hb dX1_restoreLatest_31 rfl hl (by decide) rfl (fun ls hl => ?_)
  refine lv_aload_n hx hb dX1_restoreLatest_32 rfl (lv_at hl 0 rfl) ?_
  refine lv_ifnull hx hb dX1_restoreLatest_33 ?_
  refine lv_aload_n hx hb dX1_restoreLatest_36 rfl (lv_at hl 2 rfl) ?_
  refine lv_aload_n hx hb dX1_restoreLatest_37 rfl (lv_at hl 0 rfl) ?_
  refine cV_v CF hK hN hA hS (cut_of 23 [1, 2, 3, 20, 21, 22, 0, 4, 5, 6, 7, 8, 9, 10, 11, 12, 13, 14, 15, 16, 17, 18, 19] hP hD rfl rfl rfl) (m_becomeLike l D cI cZ cW cJ A (oX1 hi 6 hv :: aW cW hv 6 svf :: oX7 (pa 0) (pb 0) (pc 0) (zc 0) (zr 0) (zl 0) (zw 0) (zf 0) :: aI cI (pb 0) 10 (zb 0) :: aI cI (pc 0) 3 (zs 0) :: oX7 (pa 1) (pb 1) (pc 1) (zc 1) (zr 1) (zl 1) (zw 1) (zf 1) :: aI cI (pb 1) 10 (zb 1) :: aI cI (pc 1) 3 (zs 1) :: oX7 (pa 2) (pb 2) (pc 2) (zc 2) (zr 2) (zl 2) (zw 2) (zf 2) :: aI cI (pb 2) 10 (zb 2) :: aI cI (pc 2) 3 (zs 2) :: oX7 (pa 3) (pb 3) (pc 3) (zc 3) (zr 3) (zl 3) (zw 3) (zf 3) :: aI cI (pb 3) 10 (zb 3) :: aI cI (pc 3) 3 (zs 3) :: oX7 (pa 4) (pb 4) (pc 4) (zc 4) (zr 4) (zl 4) (zw 4) (zf 4) :: aI cI (pb 4) 10 (zb 4) :: aI cI (pc 4) 3 (zs 4) :: X) w wb ws wc wr wl ww wf wbl wse (pa 5) (pb 5) (pc 5) (zc 5) (zr 5) (zl 5) (zw 5) (zf 5) (zb 5) (zs 5)) (cwV 1 hts gX1_restoreLatest_X7_becomeLike rfl rfl rfl (by decide +kernel) ⟨Nat.le_of_ble_eq_true rfl, Nat.le_of_ble_eq_true rfl⟩) (As := [.ref (pa 5)]) (rest := []) (ci := 7) (q0 := 0) rfl rfl rfl hl.1 rfl (Nat.le_of_ble_eq_true rfl) dX1_restoreLatest_38 ⟨Nat.le_of_ble_eq_true rfl, Nat.le_of_ble_eq_true rfl⟩ (fun u_38 H locs hq hP hD hS => ?_)
  have hq_38 : (∀ j, j < 10 → u_38.1 j = (zb 5) j) ∧ (∀ j, j < 3 → u_38.2 j = (zs 5) j) := hq
  have hP : va_P D vwCl (oX1 hi 6 hv :: oX7 w wb ws (zc 5) (zr 5) (zl 5) (zw 5) (zf 5) :: aI cI wb 10 u_38.1 :: aI cI ws 3 u_38.2 :: aW cW hv 6 svf :: oX7 (pa 0) (pb 0) (pc 0) (zc 0) (zr 0) (zl 0) (zw 0) (zf 0) :: aI cI (pb 0) 10 (zb 0) :: aI cI (pc 0) 3 (zs 0) :: oX7 (pa 1) (pb 1) (pc 1) (zc 1) (zr 1) (zl 1) (zw 1) (zf 1) :: aI cI (pb 1) 10 (zb 1) :: aI cI (pc 1) 3 (zs 1) :: oX7 (pa 2) (pb 2) (pc 2) (zc 2) (zr 2) (zl 2) (zw 2) (zf 2) :: aI cI (pb 2) 10 (zb 2) :: aI cI (pc 2) 3 (zs 2) :: oX7 (pa 3) (pb 3) (pc 3) (zc 3) (zr 3) (zl 3) (zw 3) (zf 3) :: aI cI (pb 3) 10 (zb 3) :: aI cI (pc 3) 3 (zs 3) :: oX7 (pa 4) (pb 4) (pc 4) (zc 4) (zr 4) (zl 4) (zw 4) (zf 4) :: aI cI (pb 4) 10 (zb 4) :: aI cI (pc 4) 3 (zs 4) :: oX7 (pa 5) (pb 5) (pc 5) (zc 5) (zr 5) (zl 5) (zw 5) (zf 5) :: aI cI (pb 5) 10 (zb 5) :: aI cI (pc 5) 3 (zs 5) :: X) H := pm_P hP 23 [6, 0, 1, 2, 7, 8, 9, 10, 11, 12, 13, 14, 15, 16, 17, 18, 19, 20, 21, 22, 3, 4, 5] rfl
  have hD : va_D A (oX1 hi 6 hv :: oX7 w wb ws (zc 5) (zr 5) (zl 5) (zw 5) (zf 5) :: aI cI wb 10 u_38.1 :: aI cI ws 3 u_38.2 :: aW cW hv 6 svf :: oX7 (pa 0) (pb 0) (pc 0) (zc 0) (zr 0) (zl 0) (zw 0) (zf 0) :: aI cI (pb 0) 10 (zb 0) :: aI cI (pc 0) 3 (zs 0) :: oX7 (pa 1) (pb 1) (pc 1) (zc 1) (zr 1) (zl 1) (zw 1) (zf 1) :: aI cI (pb 1) 10 (zb 1) :: aI cI (pc 1) 3 (zs 1) :: oX7 (pa 2) (pb 2) (pc 2) (zc 2) (zr 2) (zl 2) (zw 2) (zf 2) :: aI cI (pb 2) 10 (zb 2) :: aI cI (pc 2) 3 (zs 2) :: oX7 (pa 3) (pb 3) (pc 3) (zc 3) (zr 3) (zl 3) (zw 3) (zf 3) :: aI cI (pb 3) 10 (zb 3) :: aI cI (pc 3) 3 (zs 3) :: oX7 (pa 4) (pb 4) (pc 4) (zc 4) (zr 4) (zl 4) (zw 4) (zf 4) :: aI cI (pb 4) 10 (zb 4) :: aI cI (pc 4) 3 (zs 4) :: oX7 (pa 5) (pb 5) (pc 5) (zc 5) (zr 5) (zl 5) (zw 5) (zf 5) :: aI cI (pb 5) 10 (zb 5) :: aI cI (pc 5) 3 (zs 5) :: X) := pm_D hD 23 [6, 0, 1, 2, 7, 8, 9, 10, 11, 12, 13, 14, 15, 16, 17, 18, 19, 20, 21, 22, 3, 4, 5] rfl rfl rfl
  refine lv_aload_n hx hb dX1_restoreLatest_41 rfl (lv_at hl 1 rfl) ?_
  refine lv_dup hx hb dX1_restoreLatest_42 rfl ?_
  refine va_get (D := D) (ci := 1) (v := .int 6) (C := RX1) (T := TX1) (N := 2) hx hb hts hiX1 hown hK hP 0 rfl rfl 0 (by decide) (hts (.fieldLink RX1 18 "LedgeLeaps$History" "size" "I") (List.mem_of_getElem? (i := 1) rfl)) (fun _ h9 => h9) rfl dX1_restoreLatest_43 ?_
  refine lv_iconst (v := 1) hx hb dX1_restoreLatest_46 (by decide) ?_
  refine lv_isub hx hb dX1_restoreLatest_47 ?_
  refine top_i (y := 5) (by decide) ?_
  refine va_put (D := D) (ci := 1) (v := .int 5) (ty := .int) (C := RX1) (T := TX1) (N := 2) hx hb hts hiX1 tyX1 tyX1_ok nmX1 hown hK hP hD hS 0 rfl rfl 0 (by decide) (hts (.fieldLink RX1 18 "LedgeLeaps$History" "size" "I") (List.mem_of_getElem? (i := 1) rfl)) (fun _ h9 => h9) rfl (by decide +kernel) rfl rfl (Nat.le_of_ble_eq_true rfl) dX1_restoreLatest_48 (fun H locs hP hD hS => ?_)
  have hP : va_P D vwCl (oX1 hi 5 hv :: oX7 w wb ws (zc 5) (zr 5) (zl 5) (zw 5) (zf 5) :: aI cI wb 10 u_38.1 :: aI cI ws 3 u_38.2 :: aW cW hv 6 svf :: oX7 (pa 0) (pb 0) (pc 0) (zc 0) (zr 0) (zl 0) (zw 0) (zf 0) :: aI cI (pb 0) 10 (zb 0) :: aI cI (pc 0) 3 (zs 0) :: oX7 (pa 1) (pb 1) (pc 1) (zc 1) (zr 1) (zl 1) (zw 1) (zf 1) :: aI cI (pb 1) 10 (zb 1) :: aI cI (pc 1) 3 (zs 1) :: oX7 (pa 2) (pb 2) (pc 2) (zc 2) (zr 2) (zl 2) (zw 2) (zf 2) :: aI cI (pb 2) 10 (zb 2) :: aI cI (pc 2) 3 (zs 2) :: oX7 (pa 3) (pb 3) (pc 3) (zc 3) (zr 3) (zl 3) (zw 3) (zf 3) :: aI cI (pb 3) 10 (zb 3) :: aI cI (pc 3) 3 (zs 3) :: oX7 (pa 4) (pb 4) (pc 4) (zc 4) (zr 4) (zl 4) (zw 4) (zf 4) :: aI cI (pb 4) 10 (zb 4) :: aI cI (pc 4) 3 (zs 4) :: oX7 (pa 5) (pb 5) (pc 5) (zc 5) (zr 5) (zl 5) (zw 5) (zf 5) :: aI cI (pb 5) 10 (zb 5) :: aI cI (pc 5) 3 (zs 5) :: X) H := hP
  have hD : va_D A (oX1 hi 5 hv :: oX7 w wb ws (zc 5) (zr 5) (zl 5) (zw 5) (zf 5) :: aI cI wb 10 u_38.1 :: aI cI ws 3 u_38.2 :: aW cW hv 6 svf :: oX7 (pa 0) (pb 0) (pc 0) (zc 0) (zr 0) (zl 0) (zw 0) (zf 0) :: aI cI (pb 0) 10 (zb 0) :: aI cI (pc 0) 3 (zs 0) :: oX7 (pa 1) (pb 1) (pc 1) (zc 1) (zr 1) (zl 1) (zw 1) (zf 1) :: aI cI (pb 1) 10 (zb 1) :: aI cI (pc 1) 3 (zs 1) :: oX7 (pa 2) (pb 2) (pc 2) (zc 2) (zr 2) (zl 2) (zw 2) (zf 2) :: aI cI (pb 2) 10 (zb 2) :: aI cI (pc 2) 3 (zs 2) :: oX7 (pa 3) (pb 3) (pc 3) (zc 3) (zr 3) (zl 3) (zw 3) (zf 3) :: aI cI (pb 3) 10 (zb 3) :: aI cI (pc 3) 3 (zs 3) :: oX7 (pa 4) (pb 4) (pc 4) (zc 4) (zr 4) (zl 4) (zw 4) (zf 4) :: aI cI (pb 4) 10 (zb 4) :: aI cI (pc 4) 3 (zs 4) :: oX7 (pa 5) (pb 5) (pc 5) (zc 5) (zr 5) (zl 5) (zw 5) (zf 5) :: aI cI (pb 5) 10 (zb 5) :: aI cI (pc 5) 3 (zs 5) :: X) := hD
  have hPD := blk_back (w := [oX1 hi 5 hv, oX7 w wb ws (zc 5) (zr 5) (zl 5) (zw 5) (zf 5), aI cI wb 10 u_38.1, aI cI ws 3 u_38.2]) (B := [aW cW hv 6 svf, oX7 (pa 0) (pb 0) (pc 0) (zc 0) (zr 0) (zl 0) (zw 0) (zf 0), aI cI (pb 0) 10 (zb 0), aI cI (pc 0) 3 (zs 0), oX7 (pa 1) (pb 1) (pc 1) (zc 1) (zr 1) (zl 1) (zw 1) (zf 1), aI cI (pb 1) 10 (zb 1), aI cI (pc 1) 3 (zs 1), oX7 (pa 2) (pb 2) (pc 2) (zc 2) (zr 2) (zl 2) (zw 2) (zf 2), aI cI (pb 2) 10 (zb 2), aI cI (pc 2) 3 (zs 2), oX7 (pa 3) (pb 3) (pc 3) (zc 3) (zr 3) (zl 3) (zw 3) (zf 3), aI cI (pb 3) 10 (zb 3), aI cI (pc 3) 3 (zs 3), oX7 (pa 4) (pb 4) (pc 4) (zc 4) (zr 4) (zl 4) (zw 4) (zf 4), aI cI (pb 4) 10 (zb 4), aI cI (pc 4) 3 (zs 4), oX7 (pa 5) (pb 5) (pc 5) (zc 5) (zr 5) (zl 5) (zw 5) (zf 5), aI cI (pb 5) 10 (zb 5), aI cI (pc 5) 3 (zs 5)]) hP hD
  have hP := hPD.1
  have hD := hPD.2
  exact W.vret hx hb hr (fun t9 ht9 hW9 => ⟨⟨(zc 5, zr 5, zl 5, zw 5, zf 5, u_38.1, u_38.2), rfl, (hH 5 (by decide)).cong hq_38.1 hq_38.2, by rw [ht9]; exact hP, hD⟩, hS.F ht9⟩) hS.2.2 dX1_restoreLatest_51
theorem m_restore (l : Launch) (D : va_G) (cI cZ cW cJ : ClassId) (A : Nat → Prop) (X : va_W) (hi hv : Nat) (w wb ws : Nat) (wc wr wl ww wf : Int32) (wbl wse : Nat → Int32) (HR : va_W) (hist : Nat → KS) (hn : Nat) (hn1 : 1 ≤ hn) (hR : HistR cI cW hv hist hn HR) : Met l yX1_restoreLatest wsX1_restoreLatest ({ frames := 2, cells := 0, slots := 0, locals := 61 }) (va_Pc [.ref hi, .ref w] (wd D (tyL cI cZ cW cJ) A (oX1 hi (nI hn) hv :: oX7 w wb ws wc wr wl ww wf :: aI cI wb 10 wbl :: aI cI ws 3 wse :: (X ++ HR)))) (va_Qv (fun (u : Int32 × Int32 × Int32 × Int32 × Int32 × (Nat → Int32) × (Nat → Int32)) => AbsX (hist (hn - 1)) u.2.2.2.2.2.1 u.2.2.2.2.2.2 u.1 u.2.1 u.2.2.1 u.2.2.2.1 u.2.2.2.2.1) (fun (u : Int32 × Int32 × Int32 × Int32 × Int32 × (Nat → Int32) × (Nat → Int32)) t => wq D A (oX1 hi (nI (hn - 1)) hv :: oX7 w wb ws u.1 u.2.1 u.2.2.1 u.2.2.2.1 u.2.2.2.2.1 :: aI cI wb 10 u.2.2.2.2.2.1 :: aI cI ws 3 u.2.2.2.2.2.2 :: (X ++ HR)) t) A) 0 0 A := by
  have h6 : hn ≤ 6 := by obtain ⟨_, _, _, _, _, _, _, _, _, _, _, _, _, h, _⟩ := hR; exact h
  rcases (show hn = 1 ∨ hn = 2 ∨ hn = 3 ∨ hn = 4 ∨ hn = 5 ∨ hn = 6 by omega) with rfl | rfl | rfl | rfl | rfl | rfl
  · exact m_restore_1 l D cI cZ cW cJ A X hi hv w wb ws wc wr wl ww wf wbl wse HR hist hR
  · exact m_restore_2 l D cI cZ cW cJ A X hi hv w wb ws wc wr wl ww wf wbl wse HR hist hR
  · exact m_restore_3 l D cI cZ cW cJ A X hi hv w wb ws wc wr wl ww wf wbl wse HR hist hR
  · exact m_restore_4 l D cI cZ cW cJ A X hi hv w wb ws wc wr wl ww wf wbl wse HR hist hR
  · exact m_restore_5 l D cI cZ cW cJ A X hi hv w wb ws wc wr wl ww wf wbl wse HR hist hR
  · exact m_restore_6 l D cI cZ cW cJ A X hi hv w wb ws wc wr wl ww wf wbl wse HR hist hR
theorem isSlot_in {k : Nat} (h : k < 2) : isSlotX (nI k) = true := by
  rcases (show k = 0 ∨ k = 1 by omega) with rfl | rfl <;> decide
set_option maxHeartbeats 4000000 in
set_option maxRecDepth 100000 in
theorem m_snapHas (l : Launch) (D : va_G) (cI cZ cW cJ : ClassId) (A : Nat → Prop) (X : va_W) (sn kv kt : Nat) (SR : va_W) (slot : Nat → KS) (tk : Nat → Bool) (ks : Nat) (hks : ks < 2) (hR : SnapR cI cZ cW kv kt slot tk SR) : Met l yX6_has wsX6_has ({ frames := 1, cells := 0, slots := 0, locals := 20 }) (va_Pc [.ref sn, .int (nI ks)] (wd D (tyL cI cZ cW cJ) A (oX6 sn kv kt :: (X ++ SR)))) (va_Qi (fun (r : Int32) (u : Unit) => r = bI (tk ks)) (fun (u : Unit) t => wq D A (oX6 sn kv kt :: (X ++ SR)) t) A) 0 0 A := by
  refine Met.ofW (cc := cX6_has) (maxL := 2) (ret := (some .boolean)) (by decide) rfl ?_
  intro p e s m args below meth c s₁ B hml hv
  obtain ⟨rfl, hsz9, hP, hK, hD, hN⟩ := hv
  have hx := B.exec
  have hb := B.bytes
  have hr := B.returns
  have hts := atoms_spec (ws := wsX6_has) B.pre
  have hown : s.vm.findClass RX6 = some m.cls := findClass_of_methodNamed B.named
  have hlocks := B.notSynchronized
  have CF : CallFix p m c cX6_has 2 s _ wsX6_has RX6 := ⟨hx, hb, hml, hown, hts⟩
  have hA : ∀ q : Nat, s.heap.size ≤ q → A q := hsz9
  have hS : va_S A s.heap s.heap [] := va_S.rf
  have hiX6 : ∀ w ∈ u_ws RX6 TX6 2, w ∈ wsX6_has := fun _ h => List.mem_cons_of_mem _ (List.mem_append_right _ (h))
  have hl := lv_entry ([.ref sn, .int (nI ks)]) (n := 2) (Nat.le_of_ble_eq_true rfl)
  rw [lg_entry_eq]
  generalize (lg_sl ([.ref sn, .int (nI ks)]) ++ List.replicate (2 - (lg_sl ([.ref sn, .int (nI ks)])).length) Slot.unset).toArray = ls at hl ⊢
  have hl : lv_has ls 2 [(0, .ref sn), (1, .int (nI ks))] := hl
  show W p l e ({ frames := 1, cells := 0, slots := 0, locals := 20 } : Room) s m (([.ref sn, .int (nI ks)] : List Value).toArray) below meth c s.heap [] 0 0 (MQ below (va_Qi (fun (r : Int32) (u : Unit) => r = bI (tk ks)) (fun (u : Unit) t => wq D A (oX6 sn kv kt :: (X ++ SR)) t) A) (([.ref sn, .int (nI ks)] : List Value).toArray) s 0 0 A) (F0 m 0 ls [])
  obtain ⟨svf, gtk, pa, pb, pc, zb, zs, zc, zr, zl, zw, zf, rfl, hsv, hgt, hH⟩ := hR
  have hPD := blk_front (w := [oX6 sn kv kt]) hP hD
  have hP : va_P D vwCl (oX6 sn kv kt :: aW cW kv 2 svf :: aZ cZ kt 2 gtk :: oX7 (pa 0) (pb 0) (pc 0) (zc 0) (zr 0) (zl 0) (zw 0) (zf 0) :: aI cI (pb 0) 10 (zb 0) :: aI cI (pc 0) 3 (zs 0) :: oX7 (pa 1) (pb 1) (pc 1) (zc 1) (zr 1) (zl 1) (zw 1) (zf 1) :: aI cI (pb 1) 10 (zb 1) :: aI cI (pc 1) 3 (zs 1) :: X) s.heap := hPD.1
  have hD : va_D A (oX6 sn kv kt :: aW cW kv 2 svf :: aZ cZ kt 2 gtk :: oX7 (pa 0) (pb 0) (pc 0) (zc 0) (zr 0) (zl 0) (zw 0) (zf 0) :: aI cI (pb 0) 10 (zb 0) :: aI cI (pc 0) 3 (zs 0) :: oX7 (pa 1) (pb 1) (pc 1) (zc 1) (zr 1) (zl 1) (zw 1) (zf 1) :: aI cI (pb 1) 10 (zb 1) :: aI cI (pc 1) 3 (zs 1) :: X) := hPD.2
  refine lv_iload_n hx hb dX6_has_0 rfl (lv_at hl 1 rfl) ?_
  refine cSN_i CF hK hN hA hS (cut_of 9 [0, 1, 2, 3, 4, 5, 6, 7, 8] hP hD rfl rfl rfl) (m_isSlot l D cI cZ cW cJ A (oX6 sn kv kt :: aW cW kv 2 svf :: aZ cZ kt 2 gtk :: oX7 (pa 0) (pb 0) (pc 0) (zc 0) (zr 0) (zl 0) (zw 0) (zf 0) :: aI cI (pb 0) 10 (zb 0) :: aI cI (pc 0) 3 (zs 0) :: oX7 (pa 1) (pb 1) (pc 1) (zc 1) (zr 1) (zl 1) (zw 1) (zf 1) :: aI cI (pb 1) 10 (zb 1) :: aI cI (pc 1) 3 (zs 1) :: X) (nI ks)) ⟨va_cnB 1 hts gX6_has_X8_isSlot_n22 rfl rfl rfl (hN (RX6, 22, yX8_isSlot) (List.mem_of_getElem? (i := 20) rfl)) (hts (.initialized RX8) (List.mem_of_getElem? (i := 3) rfl)) (by decide +kernel) ⟨Nat.le_of_ble_eq_true rfl, Nat.le_of_ble_eq_true rfl⟩, (hts (.static yX8_isSlot) (List.mem_of_getElem? (i := 2) rfl)), trivial⟩ (As := [.int (nI ks)]) (rest := []) rfl hl.1 rfl (Nat.le_of_ble_eq_true rfl) dX6_has_1 ⟨Nat.le_of_ble_eq_true rfl, Nat.le_of_ble_eq_true rfl⟩ (fun r_1 _ H locs hq hP hD hS => ?_)
  have hq : r_1 = bI (isSlotX (nI ks)) := hq
  subst hq
  have hP : va_P D vwCl (oX6 sn kv kt :: aW cW kv 2 svf :: aZ cZ kt 2 gtk :: oX7 (pa 0) (pb 0) (pc 0) (zc 0) (zr 0) (zl 0) (zw 0) (zf 0) :: aI cI (pb 0) 10 (zb 0) :: aI cI (pc 0) 3 (zs 0) :: oX7 (pa 1) (pb 1) (pc 1) (zc 1) (zr 1) (zl 1) (zw 1) (zf 1) :: aI cI (pb 1) 10 (zb 1) :: aI cI (pc 1) 3 (zs 1) :: X) H := pm_P hP 9 [0, 1, 2, 3, 4, 5, 6, 7, 8] rfl
  have hD : va_D A (oX6 sn kv kt :: aW cW kv 2 svf :: aZ cZ kt 2 gtk :: oX7 (pa 0) (pb 0) (pc 0) (zc 0) (zr 0) (zl 0) (zw 0) (zf 0) :: aI cI (pb 0) 10 (zb 0) :: aI cI (pc 0) 3 (zs 0) :: oX7 (pa 1) (pb 1) (pc 1) (zc 1) (zr 1) (zl 1) (zw 1) (zf 1) :: aI cI (pb 1) 10 (zb 1) :: aI cI (pc 1) 3 (zs 1) :: X) := pm_D hD 9 [0, 1, 2, 3, 4, 5, 6, 7, 8] rfl rfl rfl
  have c_4 : ¬ ((bI (isSlotX (nI ks))) : Int32) = 0 := by rw [isSlot_in hks]; decide
  refine lv_if_eq (tgt := 20) hx hb dX6_has_4 (by decide) (fun q => absurd q c_4) (fun _ => ?_)
  refine lv_aload_n hx hb dX6_has_7 rfl (lv_at hl 0 rfl) ?_
  refine va_get (D := D) (ci := 6) (v := .ref kt) (C := RX6) (T := TX6) (N := 2) hx hb hts hiX6 hown hK hP 0 rfl rfl 1 (by decide) (hts (.fieldLink RX6 17 "LedgeLeaps$Snapshots" "taken" "[Z") (List.mem_of_getElem? (i := 1) rfl)) (fun _ h9 => h9) rfl dX6_has_8 ?_
  refine lv_iload_n hx hb dX6_has_11 rfl (lv_at hl 1 rfl) ?_
  refine va_zald hx hb hK hP 2 1 rfl rfl (vp_ix (rfl) (hks) (by decide)) dX6_has_12 ?_
  refine top_i (y := (gtk ks)) (ld_ix (rfl) (hks) (by decide)) ?_
  refine top_i (y := (bI (tk ks))) (hgt ks hks) ?_
  refine lv_if_eq (tgt := 20) hx hb dX6_has_13 (by decide) (fun c_13 => ?_) (fun c_13 => ?_)
  · refine lv_iconst (v := 0) hx hb dX6_has_20 (by decide) ?_
    have hPD := blk_back (w := [oX6 sn kv kt]) (B := [aW cW kv 2 svf, aZ cZ kt 2 gtk, oX7 (pa 0) (pb 0) (pc 0) (zc 0) (zr 0) (zl 0) (zw 0) (zf 0), aI cI (pb 0) 10 (zb 0), aI cI (pc 0) 3 (zs 0), oX7 (pa 1) (pb 1) (pc 1) (zc 1) (zr 1) (zl 1) (zw 1) (zf 1), aI cI (pb 1) 10 (zb 1), aI cI (pc 1) 3 (zs 1)]) hP hD
    have hP := hPD.1
    have hD := hPD.2
    exact W.zret (v := 0) (ty := .boolean) hx hb hr (rfl) (fun t9 ht9 hW9 => ⟨⟨0, (), rfl, by rw [bf_c c_13]; rfl, by rw [ht9]; exact hP, hD⟩, hS.F ht9⟩) hS.2.2 dX6_has_21
  · refine lv_iconst (v := 1) hx hb dX6_has_16 (by decide) ?_
    refine lv_goto (tgt := 21) hx hb dX6_has_17 (by decide) ?_
    have hPD := blk_back (w := [oX6 sn kv kt]) (B := [aW cW kv 2 svf, aZ cZ kt 2 gtk, oX7 (pa 0) (pb 0) (pc 0) (zc 0) (zr 0) (zl 0) (zw 0) (zf 0), aI cI (pb 0) 10 (zb 0), aI cI (pc 0) 3 (zs 0), oX7 (pa 1) (pb 1) (pc 1) (zc 1) (zr 1) (zl 1) (zw 1) (zf 1), aI cI (pb 1) 10 (zb 1), aI cI (pc 1) 3 (zs 1)]) hP hD
    have hP := hPD.1
    have hD := hPD.2
    exact W.zret (v := 1) (ty := .boolean) hx hb hr (rfl) (fun t9 ht9 hW9 => ⟨⟨1, (), rfl, by rw [bt_c c_13]; rfl, by rw [ht9]; exact hP, hD⟩, hS.F ht9⟩) hS.2.2 dX6_has_21
set_option maxHeartbeats 4000000 in
set_option maxRecDepth 100000 in
theorem m_take_0 (l : Launch) (D : va_G) (cI cZ cW cJ : ClassId) (A : Nat → Prop) (X : va_W) (sn kv kt : Nat) (w wb ws : Nat) (wc wr wl ww wf : Int32) (wbl wse : Nat → Int32) (SR : va_W) (slot : Nat → KS) (tk : Nat → Bool) (S : KS) (hR : SnapR cI cZ cW kv kt slot tk SR) (hS0 : AbsX S wbl wse wc wr wl ww wf) : Met l yX6_take wsX6_take ({ frames := 2, cells := 0, slots := 0, locals := 61 }) (va_Pc [.ref sn, .int (nI 0), .ref w] (wd D (tyL cI cZ cW cJ) A (oX6 sn kv kt :: oX7 w wb ws wc wr wl ww wf :: aI cI wb 10 wbl :: aI cI ws 3 wse :: (X ++ SR)))) (va_Qv (fun (u : va_W) => SnapR cI cZ cW kv kt (fun i => if i = 0 then S else slot i) (fun i => if i = 0 then true else tk i) u) (fun (u : va_W) t => wq D A (oX6 sn kv kt :: oX7 w wb ws wc wr wl ww wf :: aI cI wb 10 wbl :: aI cI ws 3 wse :: (X ++ u)) t) A) 0 0 A := by
  refine Met.ofW (cc := cX6_take) (maxL := 4) (ret := none) (by decide) rfl ?_
  intro p e s m args below meth c s₁ B hml hv
  obtain ⟨rfl, hsz9, hP, hK, hD, hN⟩ := hv
  have hx := B.exec
  have hb := B.bytes
  have hr := B.returns
  have hts := atoms_spec (ws := wsX6_take) B.pre
  have hown : s.vm.findClass RX6 = some m.cls := findClass_of_methodNamed B.named
  have hlocks := B.notSynchronized
  have CF : CallFix p m c cX6_take 4 s _ wsX6_take RX6 := ⟨hx, hb, hml, hown, hts⟩
  have hA : ∀ q : Nat, s.heap.size ≤ q → A q := hsz9
  have hS : va_S A s.heap s.heap [] := va_S.rf
  have hiX6 : ∀ w ∈ u_ws RX6 TX6 2, w ∈ wsX6_take := fun _ h => List.mem_cons_of_mem _ (List.mem_append_left _ (List.mem_append_right _ (h)))
  have hl := lv_entry ([.ref sn, .int (nI 0), .ref w]) (n := 4) (Nat.le_of_ble_eq_true rfl)
  rw [lg_entry_eq]
  generalize (lg_sl ([.ref sn, .int (nI 0), .ref w]) ++ List.replicate (4 - (lg_sl ([.ref sn, .int (nI 0), .ref w])).length) Slot.unset).toArray = ls at hl ⊢
  have hl : lv_has ls 4 [(0, .ref sn), (1, .int (nI 0)), (2, .ref w)] := hl
  show W p l e ({ frames := 2, cells := 0, slots := 0, locals := 61 } : Room) s m (([.ref sn, .int (nI 0), .ref w] : List Value).toArray) below meth c s.heap [] 0 0 (MQ below (va_Qv (fun (u : va_W) => SnapR cI cZ cW kv kt (fun i => if i = 0 then S else slot i) (fun i => if i = 0 then true else tk i) u) (fun (u : va_W) t => wq D A (oX6 sn kv kt :: oX7 w wb ws wc wr wl ww wf :: aI cI wb 10 wbl :: aI cI ws 3 wse :: (X ++ u)) t) A) (([.ref sn, .int (nI 0), .ref w] : List Value).toArray) s 0 0 A) (F0 m 0 ls [])
  obtain ⟨svf, gtk, pa, pb, pc, zb, zs, zc, zr, zl, zw, zf, rfl, hsv, hgt, hH⟩ := hR
  have hPD := blk_front (w := [oX6 sn kv kt, oX7 w wb ws wc wr wl ww wf, aI cI wb 10 wbl, aI cI ws 3 wse]) hP hD
  have hP : va_P D vwCl (oX6 sn kv kt :: oX7 w wb ws wc wr wl ww wf :: aI cI wb 10 wbl :: aI cI ws 3 wse :: aW cW kv 2 svf :: aZ cZ kt 2 gtk :: oX7 (pa 0) (pb 0) (pc 0) (zc 0) (zr 0) (zl 0) (zw 0) (zf 0) :: aI cI (pb 0) 10 (zb 0) :: aI cI (pc 0) 3 (zs 0) :: oX7 (pa 1) (pb 1) (pc 1) (zc 1) (zr 1) (zl 1) (zw 1) (zf 1) :: aI cI (pb 1) 10 (zb 1) :: aI cI (pc 1) 3 (zs 1) :: X) s.heap := hPD.1
  have hD : va_D A (oX6 sn kv kt :: oX7 w wb ws wc wr wl ww wf :: aI cI wb 10 wbl :: aI cI ws 3 wse :: aW cW kv 2 svf :: aZ cZ kt 2 gtk :: oX7 (pa 0) (pb 0) (pc 0) (zc 0) (zr 0) (zl 0) (zw 0) (zf 0) :: aI cI (pb 0) 10 (zb 0) :: aI cI (pc 0) 3 (zs 0) :: oX7 (pa 1) (pb 1) (pc 1) (zc 1) (zr 1) (zl 1) (zw 1) (zf 1) :: aI cI (pb 1) 10 (zb 1) :: aI cI (pc 1) 3 (zs 1) :: X) := hPD.2
  refine lv_iload_n hx hb dX6_take_0 rfl (lv_at hl 1 rfl) ?_
  refine cSN_i CF hK hN hA hS (cut_of 12 [0, 1, 2, 3, 4, 5, 6, 7, 8, 9, 10, 11] hP hD rfl rfl rfl) (m_isSlot l D cI cZ cW cJ A (oX6 sn kv kt :: oX7 w wb ws wc wr wl ww wf :: aI cI wb 10 wbl :: aI cI ws 3 wse :: aW cW kv 2 svf :: aZ cZ kt 2 gtk :: oX7 (pa 0) (pb 0) (pc 0) (zc 0) (zr 0) (zl 0) (zw 0) (zf 0) :: aI cI (pb 0) 10 (zb 0) :: aI cI (pc 0) 3 (zs 0) :: oX7 (pa 1) (pb 1) (pc 1) (zc 1) (zr 1) (zl 1) (zw 1) (zf 1) :: aI cI (pb 1) 10 (zb 1) :: aI cI (pc 1) 3 (zs 1) :: X) (nI 0)) ⟨va_cnB 1 hts gX6_take_X8_isSlot_n22 rfl rfl rfl (hN (RX6, 22, yX8_isSlot) (List.mem_of_getElem? (i := 20) rfl)) (hts (.initialized RX8) (List.mem_of_getElem? (i := 4) rfl)) (by decide +kernel) ⟨Nat.le_of_ble_eq_true rfl, Nat.le_of_ble_eq_true rfl⟩, (hts (.static yX8_isSlot) (List.mem_of_getElem? (i := 3) rfl)), trivial⟩ (As := [.int (nI 0)]) (rest := []) rfl hl.1 rfl (Nat.le_of_ble_eq_true rfl) dX6_take_1 ⟨Nat.le_of_ble_eq_true rfl, Nat.le_of_ble_eq_true rfl⟩ (fun r_1 _ H locs hq hP hD hS => ?_)
  have hq : r_1 = bI (isSlotX (nI 0)) := hq
  subst hq
  have hP : va_P D vwCl (oX6 sn kv kt :: oX7 w wb ws wc wr wl ww wf :: aI cI wb 10 wbl :: aI cI ws 3 wse :: aW cW kv 2 svf :: aZ cZ kt 2 gtk :: oX7 (pa 0) (pb 0) (pc 0) (zc 0) (zr 0) (zl 0) (zw 0) (zf 0) :: aI cI (pb 0) 10 (zb 0) :: aI cI (pc 0) 3 (zs 0) :: oX7 (pa 1) (pb 1) (pc 1) (zc 1) (zr 1) (zl 1) (zw 1) (zf 1) :: aI cI (pb 1) 10 (zb 1) :: aI cI (pc 1) 3 (zs 1) :: X) H := pm_P hP 12 [0, 1, 2, 3, 4, 5, 6, 7, 8, 9, 10, 11] rfl
  have hD : va_D A (oX6 sn kv kt :: oX7 w wb ws wc wr wl ww wf :: aI cI wb 10 wbl :: aI cI ws 3 wse :: aW cW kv 2 svf :: aZ cZ kt 2 gtk :: oX7 (pa 0) (pb 0) (pc 0) (zc 0) (zr 0) (zl 0) (zw 0) (zf 0) :: aI cI (pb 0) 10 (zb 0) :: aI cI (pc 0) 3 (zs 0) :: oX7 (pa 1) (pb 1) (pc 1) (zc 1) (zr 1) (zl 1) (zw 1) (zf 1) :: aI cI (pb 1) 10 (zb 1) :: aI cI (pc 1) 3 (zs 1) :: X) := pm_D hD 12 [0, 1, 2, 3, 4, 5, 6, 7, 8, 9, 10, 11] rfl rfl rfl
  have c_4 : ¬ ((bI (isSlotX (nI 0))) : Int32) = 0 := by rw [isSlot_in (by decide)]; decide
  refine lv_if_eq (tgt := 16) hx hb dX6_take_4 (by decide) (fun q => absurd q c_4) (fun _ => ?_)
  refine lv_aload_n hx hb dX6_take_7 rfl (lv_at hl 0 rfl) ?_
  refine va_get (D := D) (ci := 6) (v := .ref kv) (C := RX6) (T := TX6) (N := 2) hx hb hts hiX6 hown hK hP 0 rfl rfl 0 (by decide) (hts (.fieldLink RX6 11 "LedgeLeaps$Snapshots" "kept" "[LLedgeLeaps$World;") (List.mem_of_getElem? (i := 1) rfl)) (fun _ h9 => h9) rfl dX6_take_8 ?_
  refine lv_iload_n hx hb dX6_take_11 rfl (lv_at hl 1 rfl) ?_
  refine va_aldr (v := (pa 0)) hx hb hK hP 4 2 rfl rfl (vp_ix (rfl) (by decide) (by decide)) (hsv 0 (by decide)) dX6_take_12 ?_
  refine lv_goto (tgt := 17) hx hb dX6_take_13 (by decide) ?_
  refine lv_astore_n (lv' := [(3, .ref (pa 0)), (0, .ref sn), (1, .int (nI 0)), (2, .ref w)]) hx hb dX6_take_17 rfl hl (by decide) rfl (fun ls hl => ?_)
  refine lv_aload_n hx hb dX6_take_18 rfl (lv_at hl 0 rfl) ?_
  refine lv_ifnull hx hb dX6_take_19 ?_
  refine lv_aload_n hx hb dX6_take_22 rfl (lv_at hl 0 rfl) ?_
  refine lv_aload_n hx hb dX6_take_23 rfl (lv_at hl 3 rfl) ?_
  refine cV_v CF hK hN hA hS (cut_of 12 [6, 7, 8, 1, 2, 3, 0, 4, 5, 9, 10, 11] hP hD rfl rfl rfl) (m_becomeLike l D cI cZ cW cJ A (oX6 sn kv kt :: aW cW kv 2 svf :: aZ cZ kt 2 gtk :: oX7 (pa 1) (pb 1) (pc 1) (zc 1) (zr 1) (zl 1) (zw 1) (zf 1) :: aI cI (pb 1) 10 (zb 1) :: aI cI (pc 1) 3 (zs 1) :: X) (pa 0) (pb 0) (pc 0) (zc 0) (zr 0) (zl 0) (zw 0) (zf 0) (zb 0) (zs 0) w wb ws wc wr wl ww wf wbl wse) (cwV 1 hts gX6_take_X7_becomeLike rfl rfl rfl (by decide +kernel) ⟨Nat.le_of_ble_eq_true rfl, Nat.le_of_ble_eq_true rfl⟩) (As := [.ref w]) (rest := []) (ci := 7) (q0 := 0) rfl rfl rfl hl.1 rfl (Nat.le_of_ble_eq_true rfl) dX6_take_24 ⟨Nat.le_of_ble_eq_true rfl, Nat.le_of_ble_eq_true rfl⟩ (fun u_24 H locs hq hP hD hS => ?_)
  have hq_24 : (∀ j, j < 10 → u_24.1 j = wbl j) ∧ (∀ j, j < 3 → u_24.2 j = wse j) := hq
  have hP : va_P D vwCl (oX6 sn kv kt :: oX7 w wb ws wc wr wl ww wf :: aI cI wb 10 wbl :: aI cI ws 3 wse :: aW cW kv 2 svf :: aZ cZ kt 2 gtk :: oX7 (pa 0) (pb 0) (pc 0) wc wr wl ww wf :: aI cI (pb 0) 10 u_24.1 :: aI cI (pc 0) 3 u_24.2 :: oX7 (pa 1) (pb 1) (pc 1) (zc 1) (zr 1) (zl 1) (zw 1) (zf 1) :: aI cI (pb 1) 10 (zb 1) :: aI cI (pc 1) 3 (zs 1) :: X) H := pm_P hP 12 [6, 3, 4, 5, 7, 8, 0, 1, 2, 9, 10, 11] rfl
  have hD : va_D A (oX6 sn kv kt :: oX7 w wb ws wc wr wl ww wf :: aI cI wb 10 wbl :: aI cI ws 3 wse :: aW cW kv 2 svf :: aZ cZ kt 2 gtk :: oX7 (pa 0) (pb 0) (pc 0) wc wr wl ww wf :: aI cI (pb 0) 10 u_24.1 :: aI cI (pc 0) 3 u_24.2 :: oX7 (pa 1) (pb 1) (pc 1) (zc 1) (zr 1) (zl 1) (zw 1) (zf 1) :: aI cI (pb 1) 10 (zb 1) :: aI cI (pc 1) 3 (zs 1) :: X) := pm_D hD 12 [6, 3, 4, 5, 7, 8, 0, 1, 2, 9, 10, 11] rfl rfl rfl
  refine lv_aload_n hx hb dX6_take_27 rfl (lv_at hl 1 rfl) ?_
  refine va_get (D := D) (ci := 6) (v := .ref kt) (C := RX6) (T := TX6) (N := 2) hx hb hts hiX6 hown hK hP 0 rfl rfl 1 (by decide) (hts (.fieldLink RX6 17 "LedgeLeaps$Snapshots" "taken" "[Z") (List.mem_of_getElem? (i := 2) rfl)) (fun _ h9 => h9) rfl dX6_take_28 ?_
  refine lv_iload_n hx hb dX6_take_31 rfl (lv_at hl 2 rfl) ?_
  refine lv_iconst (v := 1) hx hb dX6_take_32 (by decide) ?_
  refine va_zast hx hb hK hP hD hS 5 1 rfl rfl (vp_ix (rfl) (by decide) (by decide)) dX6_take_33 (fun H locs hP hD hS => ?_)
  rw [cl_ix (n := 2) (rfl) (by decide) (by decide)] at hP hD
  have hP : va_P D vwCl (oX6 sn kv kt :: oX7 w wb ws wc wr wl ww wf :: aI cI wb 10 wbl :: aI cI ws 3 wse :: aW cW kv 2 svf :: aZ cZ kt 2 (upd gtk 0 1) :: oX7 (pa 0) (pb 0) (pc 0) wc wr wl ww wf :: aI cI (pb 0) 10 u_24.1 :: aI cI (pc 0) 3 u_24.2 :: oX7 (pa 1) (pb 1) (pc 1) (zc 1) (zr 1) (zl 1) (zw 1) (zf 1) :: aI cI (pb 1) 10 (zb 1) :: aI cI (pc 1) 3 (zs 1) :: X) H := hP
  have hD : va_D A (oX6 sn kv kt :: oX7 w wb ws wc wr wl ww wf :: aI cI wb 10 wbl :: aI cI ws 3 wse :: aW cW kv 2 svf :: aZ cZ kt 2 (upd gtk 0 1) :: oX7 (pa 0) (pb 0) (pc 0) wc wr wl ww wf :: aI cI (pb 0) 10 u_24.1 :: aI cI (pc 0) 3 u_24.2 :: oX7 (pa 1) (pb 1) (pc 1) (zc 1) (zr 1) (zl 1) (zw 1) (zf 1) :: aI cI (pb 1) 10 (zb 1) :: aI cI (pc 1) 3 (zs 1) :: X) := hD
  have hPD := blk_back (w := [oX6 sn kv kt, oX7 w wb ws wc wr wl ww wf, aI cI wb 10 wbl, aI cI ws 3 wse]) (B := [aW cW kv 2 svf, aZ cZ kt 2 (upd gtk 0 1), oX7 (pa 0) (pb 0) (pc 0) wc wr wl ww wf, aI cI (pb 0) 10 u_24.1, aI cI (pc 0) 3 u_24.2, oX7 (pa 1) (pb 1) (pc 1) (zc 1) (zr 1) (zl 1) (zw 1) (zf 1), aI cI (pb 1) 10 (zb 1), aI cI (pc 1) 3 (zs 1)]) hP hD
  have hP := hPD.1
  have hD := hPD.2
  have hnew : SnapR cI cZ cW kv kt (fun i => if i = 0 then S else slot i) (fun i => if i = 0 then true else tk i) [aW cW kv 2 svf, aZ cZ kt 2 (upd gtk 0 1), oX7 (pa 0) (pb 0) (pc 0) wc wr wl ww wf, aI cI (pb 0) 10 u_24.1, aI cI (pc 0) 3 u_24.2, oX7 (pa 1) (pb 1) (pc 1) (zc 1) (zr 1) (zl 1) (zw 1) (zf 1), aI cI (pb 1) 10 (zb 1), aI cI (pc 1) 3 (zs 1)] := by
    refine ⟨svf, (upd gtk 0 1), pa, pb, pc, (va_up zb 0 u_24.1), (va_up zs 0 u_24.2), (va_up zc 0 wc), (va_up zr 0 wr), (va_up zl 0 wl), (va_up zw 0 ww), (va_up zf 0 wf), rfl, hsv, ?_, ?_⟩
    · intro i hi
      show (upd gtk 0 1) i = bI (if i = 0 then true else tk i)
      by_cases q : i = 0
      · subst q; rw [pk_us, if_pos rfl]; rfl
      · rw [pk_un q, if_neg q]; exact hgt i hi
    · intro i hi ht
      have ht : (if i = 0 then true else tk i) = true := ht
      show AbsX (if i = 0 then S else slot i) (va_up zb 0 u_24.1 i) (va_up zs 0 u_24.2 i) (va_up zc 0 wc i) (va_up zr 0 wr i) (va_up zl 0 wl i) (va_up zw 0 ww i) (va_up zf 0 wf i)
      by_cases q : i = 0
      · subst q; rw [if_pos rfl]; simp only [up_s]; exact hS0.cong hq_24.1 hq_24.2
      · rw [if_neg q] at ht ⊢; simp only [up_n q]; exact hH i hi ht
  exact W.vret hx hb hr (fun t9 ht9 hW9 => ⟨⟨_, rfl, hnew, by rw [ht9]; exact hP, hD⟩, hS.F ht9⟩) hS.2.2 dX6_take_34
set_option maxHeartbeats 4000000 in
set_option maxRecDepth 100000 in
theorem m_take_1 (l : Launch) (D : va_G) (cI cZ cW cJ : ClassId) (A : Nat → Prop) (X : va_W) (sn kv kt : Nat) (w wb ws : Nat) (wc wr wl ww wf : Int32) (wbl wse : Nat → Int32) (SR : va_W) (slot : Nat → KS) (tk : Nat → Bool) (S : KS) (hR : SnapR cI cZ cW kv kt slot tk SR) (hS0 : AbsX S wbl wse wc wr wl ww wf) : Met l yX6_take wsX6_take ({ frames := 2, cells := 0, slots := 0, locals := 61 }) (va_Pc [.ref sn, .int (nI 1), .ref w] (wd D (tyL cI cZ cW cJ) A (oX6 sn kv kt :: oX7 w wb ws wc wr wl ww wf :: aI cI wb 10 wbl :: aI cI ws 3 wse :: (X ++ SR)))) (va_Qv (fun (u : va_W) => SnapR cI cZ cW kv kt (fun i => if i = 1 then S else slot i) (fun i => if i = 1 then true else tk i) u) (fun (u : va_W) t => wq D A (oX6 sn kv kt :: oX7 w wb ws wc wr wl ww wf :: aI cI wb 10 wbl :: aI cI ws 3 wse :: (X ++ u)) t) A) 0 0 A := by
  refine Met.ofW (cc := cX6_take) (maxL := 4) (ret := none) (by decide) rfl ?_
  intro p e s m args below meth c s₁ B hml hv
  obtain ⟨rfl, hsz9, hP, hK, hD, hN⟩ := hv
  have hx := B.exec
  have hb := B.bytes
  have hr := B.returns
  have hts := atoms_spec (ws := wsX6_take) B.pre
  have hown : s.vm.findClass RX6 = some m.cls := findClass_of_methodNamed B.named
  have hlocks := B.notSynchronized
  have CF : CallFix p m c cX6_take 4 s _ wsX6_take RX6 := ⟨hx, hb, hml, hown, hts⟩
  have hA : ∀ q : Nat, s.heap.size ≤ q → A q := hsz9
  have hS : va_S A s.heap s.heap [] := va_S.rf
  have hiX6 : ∀ w ∈ u_ws RX6 TX6 2, w ∈ wsX6_take := fun _ h => List.mem_cons_of_mem _ (List.mem_append_left _ (List.mem_append_right _ (h)))
  have hl := lv_entry ([.ref sn, .int (nI 1), .ref w]) (n := 4) (Nat.le_of_ble_eq_true rfl)
  rw [lg_entry_eq]
  generalize (lg_sl ([.ref sn, .int (nI 1), .ref w]) ++ List.replicate (4 - (lg_sl ([.ref sn, .int (nI 1), .ref w])).length) Slot.unset).toArray = ls at hl ⊢
  have hl : lv_has ls 4 [(0, .ref sn), (1, .int (nI 1)), (2, .ref w)] := hl
  show W p l e ({ frames := 2, cells := 0, slots := 0, locals := 61 } : Room) s m (([.ref sn, .int (nI 1), .ref w] : List Value).toArray) below meth c s.heap [] 0 0 (MQ below (va_Qv (fun (u : va_W) => SnapR cI cZ cW kv kt (fun i => if i = 1 then S else slot i) (fun i => if i = 1 then true else tk i) u) (fun (u : va_W) t => wq D A (oX6 sn kv kt :: oX7 w wb ws wc wr wl ww wf :: aI cI wb 10 wbl :: aI cI ws 3 wse :: (X ++ u)) t) A) (([.ref sn, .int (nI 1), .ref w] : List Value).toArray) s 0 0 A) (F0 m 0 ls [])
  obtain ⟨svf, gtk, pa, pb, pc, zb, zs, zc, zr, zl, zw, zf, rfl, hsv, hgt, hH⟩ := hR
  have hPD := blk_front (w := [oX6 sn kv kt, oX7 w wb ws wc wr wl ww wf, aI cI wb 10 wbl, aI cI ws 3 wse]) hP hD
  have hP : va_P D vwCl (oX6 sn kv kt :: oX7 w wb ws wc wr wl ww wf :: aI cI wb 10 wbl :: aI cI ws 3 wse :: aW cW kv 2 svf :: aZ cZ kt 2 gtk :: oX7 (pa 0) (pb 0) (pc 0) (zc 0) (zr 0) (zl 0) (zw 0) (zf 0) :: aI cI (pb 0) 10 (zb 0) :: aI cI (pc 0) 3 (zs 0) :: oX7 (pa 1) (pb 1) (pc 1) (zc 1) (zr 1) (zl 1) (zw 1) (zf 1) :: aI cI (pb 1) 10 (zb 1) :: aI cI (pc 1) 3 (zs 1) :: X) s.heap := hPD.1
  have hD : va_D A (oX6 sn kv kt :: oX7 w wb ws wc wr wl ww wf :: aI cI wb 10 wbl :: aI cI ws 3 wse :: aW cW kv 2 svf :: aZ cZ kt 2 gtk :: oX7 (pa 0) (pb 0) (pc 0) (zc 0) (zr 0) (zl 0) (zw 0) (zf 0) :: aI cI (pb 0) 10 (zb 0) :: aI cI (pc 0) 3 (zs 0) :: oX7 (pa 1) (pb 1) (pc 1) (zc 1) (zr 1) (zl 1) (zw 1) (zf 1) :: aI cI (pb 1) 10 (zb 1) :: aI cI (pc 1) 3 (zs 1) :: X) := hPD.2
  refine lv_iload_n hx hb dX6_take_0 rfl (lv_at hl 1 rfl) ?_
  refine cSN_i CF hK hN hA hS (cut_of 12 [0, 1, 2, 3, 4, 5, 6, 7, 8, 9, 10, 11] hP hD rfl rfl rfl) (m_isSlot l D cI cZ cW cJ A (oX6 sn kv kt :: oX7 w wb ws wc wr wl ww wf :: aI cI wb 10 wbl :: aI cI ws 3 wse :: aW cW kv 2 svf :: aZ cZ kt 2 gtk :: oX7 (pa 0) (pb 0) (pc 0) (zc 0) (zr 0) (zl 0) (zw 0) (zf 0) :: aI cI (pb 0) 10 (zb 0) :: aI cI (pc 0) 3 (zs 0) :: oX7 (pa 1) (pb 1) (pc 1) (zc 1) (zr 1) (zl 1) (zw 1) (zf 1) :: aI cI (pb 1) 10 (zb 1) :: aI cI (pc 1) 3 (zs 1) :: X) (nI 1)) ⟨va_cnB 1 hts gX6_take_X8_isSlot_n22 rfl rfl rfl (hN (RX6, 22, yX8_isSlot) (List.mem_of_getElem? (i := 20) rfl)) (hts (.initialized RX8) (List.mem_of_getElem? (i := 4) rfl)) (by decide +kernel) ⟨Nat.le_of_ble_eq_true rfl, Nat.le_of_ble_eq_true rfl⟩, (hts (.static yX8_isSlot) (List.mem_of_getElem? (i := 3) rfl)), trivial⟩ (As := [.int (nI 1)]) (rest := []) rfl hl.1 rfl (Nat.le_of_ble_eq_true rfl) dX6_take_1 ⟨Nat.le_of_ble_eq_true rfl, Nat.le_of_ble_eq_true rfl⟩ (fun r_1 _ H locs hq hP hD hS => ?_)
  have hq : r_1 = bI (isSlotX (nI 1)) := hq
  subst hq
  have hP : va_P D vwCl (oX6 sn kv kt :: oX7 w wb ws wc wr wl ww wf :: aI cI wb 10 wbl :: aI cI ws 3 wse :: aW cW kv 2 svf :: aZ cZ kt 2 gtk :: oX7 (pa 0) (pb 0) (pc 0) (zc 0) (zr 0) (zl 0) (zw 0) (zf 0) :: aI cI (pb 0) 10 (zb 0) :: aI cI (pc 0) 3 (zs 0) :: oX7 (pa 1) (pb 1) (pc 1) (zc 1) (zr 1) (zl 1) (zw 1) (zf 1) :: aI cI (pb 1) 10 (zb 1) :: aI cI (pc 1) 3 (zs 1) :: X) H := pm_P hP 12 [0, 1, 2, 3, 4, 5, 6, 7, 8, 9, 10, 11] rfl
  have hD : va_D A (oX6 sn kv kt :: oX7 w wb ws wc wr wl ww wf :: aI cI wb 10 wbl :: aI cI ws 3 wse :: aW cW kv 2 svf :: aZ cZ kt 2 gtk :: oX7 (pa 0) (pb 0) (pc 0) (zc 0) (zr 0) (zl 0) (zw 0) (zf 0) :: aI cI (pb 0) 10 (zb 0) :: aI cI (pc 0) 3 (zs 0) :: oX7 (pa 1) (pb 1) (pc 1) (zc 1) (zr 1) (zl 1) (zw 1) (zf 1) :: aI cI (pb 1) 10 (zb 1) :: aI cI (pc 1) 3 (zs 1) :: X) := pm_D hD 12 [0, 1, 2, 3, 4, 5, 6, 7, 8, 9, 10, 11] rfl rfl rfl
  have c_4 : ¬ ((bI (isSlotX (nI 1))) : Int32) = 0 := by rw [isSlot_in (by decide)]; decide
  refine lv_if_eq (tgt := 16) hx hb dX6_take_4 (by decide) (fun q => absurd q c_4) (fun _ => ?_)
  refine lv_aload_n hx hb dX6_take_7 rfl (lv_at hl 0 rfl) ?_
  refine va_get (D := D) (ci := 6) (v := .ref kv) (C := RX6) (T := TX6) (N := 2) hx hb hts hiX6 hown hK hP 0 rfl rfl 0 (by decide) (hts (.fieldLink RX6 11 "LedgeLeaps$Snapshots" "kept" "[LLedgeLeaps$World;") (List.mem_of_getElem? (i := 1) rfl)) (fun _ h9 => h9) rfl dX6_take_8 ?_
  refine lv_iload_n hx hb dX6_take_11 rfl (lv_at hl 1 rfl) ?_
  refine va_aldr (v := (pa 1)) hx hb hK hP 4 2 rfl rfl (vp_ix (rfl) (by decide) (by decide)) (hsv 1 (by decide)) dX6_take_12 ?_
  refine lv_goto (tgt := 17) hx hb dX6_take_13 (by decide) ?_
  refine lv_astore_n (lv' := [(3, .ref (pa 1)), (0, .ref sn), (1, .int (nI 1)), (2, .ref w)]) hx hb dX6_take_17 rfl hl (by decide) rfl (fun ls hl => ?_)
  refine lv_aload_n hx hb dX6_take_18 rfl (lv_at hl 0 rfl) ?_
  refine lv_ifnull hx hb dX6_take_19 ?_
  refine lv_aload_n hx hb dX6_take_22 rfl (lv_at hl 0 rfl) ?_
  refine lv_aload_n hx hb dX6_take_23 rfl (lv_at hl 3 rfl) ?_
  refine cV_v CF hK hN hA hS (cut_of 12 [9, 10, 11, 1, 2, 3, 0, 4, 5, 6, 7, 8] hP hD rfl rfl rfl) (m_becomeLike l D cI cZ cW cJ A (oX6 sn kv kt :: aW cW kv 2 svf :: aZ cZ kt 2 gtk :: oX7 (pa 0) (pb 0) (pc 0) (zc 0) (zr 0) (zl 0) (zw 0) (zf 0) :: aI cI (pb 0) 10 (zb 0) :: aI cI (pc 0) 3 (zs 0) :: X) (pa 1) (pb 1) (pc 1) (zc 1) (zr 1) (zl 1) (zw 1) (zf 1) (zb 1) (zs 1) w wb ws wc wr wl ww wf wbl wse) (cwV 1 hts gX6_take_X7_becomeLike rfl rfl rfl (by decide +kernel) ⟨Nat.le_of_ble_eq_true rfl, Nat.le_of_ble_eq_true rfl⟩) (As := [.ref w]) (rest := []) (ci := 7) (q0 := 0) rfl rfl rfl hl.1 rfl (Nat.le_of_ble_eq_true rfl) dX6_take_24 ⟨Nat.le_of_ble_eq_true rfl, Nat.le_of_ble_eq_true rfl⟩ (fun u_24 H locs hq hP hD hS => ?_)
  have hq_24 : (∀ j, j < 10 → u_24.1 j = wbl j) ∧ (∀ j, j < 3 → u_24.2 j = wse j) := hq
  have hP : va_P D vwCl (oX6 sn kv kt :: oX7 w wb ws wc wr wl ww wf :: aI cI wb 10 wbl :: aI cI ws 3 wse :: aW cW kv 2 svf :: aZ cZ kt 2 gtk :: oX7 (pa 0) (pb 0) (pc 0) (zc 0) (zr 0) (zl 0) (zw 0) (zf 0) :: aI cI (pb 0) 10 (zb 0) :: aI cI (pc 0) 3 (zs 0) :: oX7 (pa 1) (pb 1) (pc 1) wc wr wl ww wf :: aI cI (pb 1) 10 u_24.1 :: aI cI (pc 1) 3 u_24.2 :: X) H := pm_P hP 12 [6, 3, 4, 5, 7, 8, 9, 10, 11, 0, 1, 2] rfl
  have hD : va_D A (oX6 sn kv kt :: oX7 w wb ws wc wr wl ww wf :: aI cI wb 10 wbl :: aI cI ws 3 wse :: aW cW kv 2 svf :: aZ cZ kt 2 gtk :: oX7 (pa 0) (pb 0) (pc 0) (zc 0) (zr 0) (zl 0) (zw 0) (zf 0) :: aI cI (pb 0) 10 (zb 0) :: aI cI (pc 0) 3 (zs 0) :: oX7 (pa 1) (pb 1) (pc 1) wc wr wl ww wf :: aI cI (pb 1) 10 u_24.1 :: aI cI (pc 1) 3 u_24.2 :: X) := pm_D hD 12 [6, 3, 4, 5, 7, 8, 9, 10, 11, 0, 1, 2] rfl rfl rfl
  refine lv_aload_n hx hb dX6_take_27 rfl (lv_at hl 1 rfl) ?_
  refine va_get (D := D) (ci := 6) (v := .ref kt) (C := RX6) (T := TX6) (N := 2) hx hb hts hiX6 hown hK hP 0 rfl rfl 1 (by decide) (hts (.fieldLink RX6 17 "LedgeLeaps$Snapshots" "taken" "[Z") (List.mem_of_getElem? (i := 2) rfl)) (fun _ h9 => h9) rfl dX6_take_28 ?_
  refine lv_iload_n hx hb dX6_take_31 rfl (lv_at hl 2 rfl) ?_
  refine lv_iconst (v := 1) hx hb dX6_take_32 (by decide) ?_
  refine va_zast hx hb hK hP hD hS 5 1 rfl rfl (vp_ix (rfl) (by decide) (by decide)) dX6_take_33 (fun H locs hP hD hS => ?_)
  rw [cl_ix (n := 2) (rfl) (by decide) (by decide)] at hP hD
  have hP : va_P D vwCl (oX6 sn kv kt :: oX7 w wb ws wc wr wl ww wf :: aI cI wb 10 wbl :: aI cI ws 3 wse :: aW cW kv 2 svf :: aZ cZ kt 2 (upd gtk 1 1) :: oX7 (pa 0) (pb 0) (pc 0) (zc 0) (zr 0) (zl 0) (zw 0) (zf 0) :: aI cI (pb 0) 10 (zb 0) :: aI cI (pc 0) 3 (zs 0) :: oX7 (pa 1) (pb 1) (pc 1) wc wr wl ww wf :: aI cI (pb 1) 10 u_24.1 :: aI cI (pc 1) 3 u_24.2 :: X) H := hP
  have hD : va_D A (oX6 sn kv kt :: oX7 w wb ws wc wr wl ww wf :: aI cI wb 10 wbl :: aI cI ws 3 wse :: aW cW kv 2 svf :: aZ cZ kt 2 (upd gtk 1 1) :: oX7 (pa 0) (pb 0) (pc 0) (zc 0) (zr 0) (zl 0) (zw 0) (zf 0) :: aI cI (pb 0) 10 (zb 0) :: aI cI (pc 0) 3 (zs 0) :: oX7 (pa 1) (pb 1) (pc 1) wc wr wl ww wf :: aI cI (pb 1) 10 u_24.1 :: aI cI (pc 1) 3 u_24.2 :: X) := hD
  have hPD := blk_back (w := [oX6 sn kv kt, oX7 w wb ws wc wr wl ww wf, aI cI wb 10 wbl, aI cI ws 3 wse]) (B := [aW cW kv 2 svf, aZ cZ kt 2 (upd gtk 1 1), oX7 (pa 0) (pb 0) (pc 0) (zc 0) (zr 0) (zl 0) (zw 0) (zf 0), aI cI (pb 0) 10 (zb 0), aI cI (pc 0) 3 (zs 0), oX7 (pa 1) (pb 1) (pc 1) wc wr wl ww wf, aI cI (pb 1) 10 u_24.1, aI cI (pc 1) 3 u_24.2]) hP hD
  have hP := hPD.1
  have hD := hPD.2
  have hnew : SnapR cI cZ cW kv kt (fun i => if i = 1 then S else slot i) (fun i => if i = 1 then true else tk i) [aW cW kv 2 svf, aZ cZ kt 2 (upd gtk 1 1), oX7 (pa 0) (pb 0) (pc 0) (zc 0) (zr 0) (zl 0) (zw 0) (zf 0), aI cI (pb 0) 10 (zb 0), aI cI (pc 0) 3 (zs 0), oX7 (pa 1) (pb 1) (pc 1) wc wr wl ww wf, aI cI (pb 1) 10 u_24.1, aI cI (pc 1) 3 u_24.2] := by
    refine ⟨svf, (upd gtk 1 1), pa, pb, pc, (va_up zb 1 u_24.1), (va_up zs 1 u_24.2), (va_up zc 1 wc), (va_up zr 1 wr), (va_up zl 1 wl), (va_up zw 1 ww), (va_up zf 1 wf), rfl, hsv, ?_, ?_⟩
    · intro i hi
      show (upd gtk 1 1) i = bI (if i = 1 then true else tk i)
      by_cases q : i = 1
      · subst q; rw [pk_us, if_pos rfl]; rfl
      · rw [pk_un q, if_neg q]; exact hgt i hi
    · intro i hi ht
      have ht : (if i = 1 then true else tk i) = true := ht
      show AbsX (if i = 1 then S else slot i) (va_up zb 1 u_24.1 i) (va_up zs 1 u_24.2 i) (va_up zc 1 wc i) (va_up zr 1 wr i) (va_up zl 1 wl i) (va_up zw 1 ww i) (va_up zf 1 wf i)
      by_cases q : i = 1
      · subst q; rw [if_pos rfl]; simp only [up_s]; exact hS0.cong hq_24.1 hq_24.2
      · rw [if_neg q] at ht ⊢; simp only [up_n q]; exact hH i hi ht
  exact W.vret hx hb hr (fun t9 ht9 hW9 => ⟨⟨_, rfl, hnew, by rw [ht9]; exact hP, hD⟩, hS.F ht9⟩) hS.2.2 dX6_take_34
theorem m_take (l : Launch) (D : va_G) (cI cZ cW cJ : ClassId) (A : Nat → Prop) (X : va_W) (sn kv kt : Nat) (w wb ws : Nat) (wc wr wl ww wf : Int32) (wbl wse : Nat → Int32) (SR : va_W) (slot : Nat → KS) (tk : Nat → Bool) (S : KS) (ks : Nat) (hks : ks < 2) (hR : SnapR cI cZ cW kv kt slot tk SR) (hS0 : AbsX S wbl wse wc wr wl ww wf) : Met l yX6_take wsX6_take ({ frames := 2, cells := 0, slots := 0, locals := 61 }) (va_Pc [.ref sn, .int (nI ks), .ref w] (wd D (tyL cI cZ cW cJ) A (oX6 sn kv kt :: oX7 w wb ws wc wr wl ww wf :: aI cI wb 10 wbl :: aI cI ws 3 wse :: (X ++ SR)))) (va_Qv (fun (u : va_W) => SnapR cI cZ cW kv kt (fun i => if i = ks then S else slot i) (fun i => if i = ks then true else tk i) u) (fun (u : va_W) t => wq D A (oX6 sn kv kt :: oX7 w wb ws wc wr wl ww wf :: aI cI wb 10 wbl :: aI cI ws 3 wse :: (X ++ u)) t) A) 0 0 A := by
  rcases (show ks = 0 ∨ ks = 1 by omega) with rfl | rfl
  · exact m_take_0 l D cI cZ cW cJ A X sn kv kt w wb ws wc wr wl ww wf wbl wse SR slot tk S hR hS0
  · exact m_take_1 l D cI cZ cW cJ A X sn kv kt w wb ws wc wr wl ww wf wbl wse SR slot tk S hR hS0
set_option maxHeartbeats 4000000 in
set_option maxRecDepth 100000 in
theorem m_give_0 (l : Launch) (D : va_G) (cI cZ cW cJ : ClassId) (A : Nat → Prop) (X : va_W) (sn kv kt : Nat) (w wb ws : Nat) (wc wr wl ww wf : Int32) (wbl wse : Nat → Int32) (SR : va_W) (slot : Nat → KS) (tk : Nat → Bool) (hR : SnapR cI cZ cW kv kt slot tk SR) (htk : tk 0 = true) : Met l yX6_giveBack wsX6_giveBack ({ frames := 2, cells := 0, slots := 0, locals := 61 }) (va_Pc [.ref sn, .int (nI 0), .ref w] (wd D (tyL cI cZ cW cJ) A (oX6 sn kv kt :: oX7 w wb ws wc wr wl ww wf :: aI cI wb 10 wbl :: aI cI ws 3 wse :: (X ++ SR)))) (va_Qv (fun (u : Int32 × Int32 × Int32 × Int32 × Int32 × (Nat → Int32) × (Nat → Int32)) => AbsX (slot 0) u.2.2.2.2.2.1 u.2.2.2.2.2.2 u.1 u.2.1 u.2.2.1 u.2.2.2.1 u.2.2.2.2.1) (fun (u : Int32 × Int32 × Int32 × Int32 × Int32 × (Nat → Int32) × (Nat → Int32)) t => wq D A (oX6 sn kv kt :: oX7 w wb ws u.1 u.2.1 u.2.2.1 u.2.2.2.1 u.2.2.2.2.1 :: aI cI wb 10 u.2.2.2.2.2.1 :: aI cI ws 3 u.2.2.2.2.2.2 :: (X ++ SR)) t) A) 0 0 A := by
  refine Met.ofW (cc := cX6_giveBack) (maxL := 4) (ret := none) (by decide) rfl ?_
  intro p e s m args below meth c s₁ B hml hv
  obtain ⟨rfl, hsz9, hP, hK, hD, hN⟩ := hv
  have hx := B.exec
  have hb := B.bytes
  have hr := B.returns
  have hts := atoms_spec (ws := wsX6_giveBack) B.pre
  have hown : s.vm.findClass RX6 = some m.cls := findClass_of_methodNamed B.named
  have hlocks := B.notSynchronized
  have CF : CallFix p m c cX6_giveBack 4 s _ wsX6_giveBack RX6 := ⟨hx, hb, hml, hown, hts⟩
  have hA : ∀ q : Nat, s.heap.size ≤ q → A q := hsz9
  have hS : va_S A s.heap s.heap [] := va_S.rf
  have hiX6 : ∀ w ∈ u_ws RX6 TX6 2, w ∈ wsX6_giveBack := fun _ h => List.mem_cons_of_mem _ (List.mem_append_left _ (List.mem_append_right _ (h)))
  have hl := lv_entry ([.ref sn, .int (nI 0), .ref w]) (n := 4) (Nat.le_of_ble_eq_true rfl)
  rw [lg_entry_eq]
  generalize (lg_sl ([.ref sn, .int (nI 0), .ref w]) ++ List.replicate (4 - (lg_sl ([.ref sn, .int (nI 0), .ref w])).length) Slot.unset).toArray = ls at hl ⊢
  have hl : lv_has ls 4 [(0, .ref sn), (1, .int (nI 0)), (2, .ref w)] := hl
  show W p l e ({ frames := 2, cells := 0, slots := 0, locals := 61 } : Room) s m (([.ref sn, .int (nI 0), .ref w] : List Value).toArray) below meth c s.heap [] 0 0 (MQ below (va_Qv (fun (u : Int32 × Int32 × Int32 × Int32 × Int32 × (Nat → Int32) × (Nat → Int32)) => AbsX (slot 0) u.2.2.2.2.2.1 u.2.2.2.2.2.2 u.1 u.2.1 u.2.2.1 u.2.2.2.1 u.2.2.2.2.1) (fun (u : Int32 × Int32 × Int32 × Int32 × Int32 × (Nat → Int32) × (Nat → Int32)) t => wq D A (oX6 sn kv kt :: oX7 w wb ws u.1 u.2.1 u.2.2.1 u.2.2.2.1 u.2.2.2.2.1 :: aI cI wb 10 u.2.2.2.2.2.1 :: aI cI ws 3 u.2.2.2.2.2.2 :: (X ++ SR)) t) A) (([.ref sn, .int (nI 0), .ref w] : List Value).toArray) s 0 0 A) (F0 m 0 ls [])
  refine lv_aload_n hx hb dX6_giveBack_0 rfl (lv_at hl 0 rfl) ?_
  refine lv_iload_n hx hb dX6_giveBack_1 rfl (lv_at hl 1 rfl) ?_
  refine cV_i CF hK hN hA hS (cut_of 4 [0, 1, 2, 3] hP hD rfl rfl rfl) (m_snapHas l D cI cZ cW cJ A (oX7 w wb ws wc wr wl ww wf :: aI cI wb 10 wbl :: aI cI ws 3 wse :: X) sn kv kt SR slot tk 0 (by decide) hR) (cwV 1 hts gX6_giveBack_X6_has rfl rfl rfl (by decide +kernel) ⟨Nat.le_of_ble_eq_true rfl, Nat.le_of_ble_eq_true rfl⟩) (As := [.int (nI 0)]) (rest := []) (ci := 6) (q0 := 0) rfl rfl rfl hl.1 rfl (Nat.le_of_ble_eq_true rfl) dX6_giveBack_2 ⟨Nat.le_of_ble_eq_true rfl, Nat.le_of_ble_eq_true rfl⟩ (fun r_2 _ H locs hq hP hD hS => ?_)
  have hq : r_2 = bI (tk 0) := hq
  subst hq
  have hP : va_P D vwCl (oX6 sn kv kt :: oX7 w wb ws wc wr wl ww wf :: aI cI wb 10 wbl :: aI cI ws 3 wse :: (X ++ SR)) H := pm_P hP 4 [0, 1, 2, 3] rfl
  have hD : va_D A (oX6 sn kv kt :: oX7 w wb ws wc wr wl ww wf :: aI cI wb 10 wbl :: aI cI ws 3 wse :: (X ++ SR)) := pm_D hD 4 [0, 1, 2, 3] rfl rfl rfl
  have c_5 : ¬ ((bI (tk 0)) : Int32) = 0 := by rw [htk]; decide
  refine lv_if_eq (tgt := 17) hx hb dX6_giveBack_5 (by decide) (fun q => absurd q c_5) (fun _ => ?_)
  obtain ⟨svf, gtk, pa, pb, pc, zb, zs, zc, zr, zl, zw, zf, rfl, hsv, hgt, hH⟩ := hR
  have hPD := blk_front (w := [oX6 sn kv kt, oX7 w wb ws wc wr wl ww wf, aI cI wb 10 wbl, aI cI ws 3 wse]) hP hD
  have hP : va_P D vwCl (oX6 sn kv kt :: oX7 w wb ws wc wr wl ww wf :: aI cI wb 10 wbl :: aI cI ws 3 wse :: aW cW kv 2 svf :: aZ cZ kt 2 gtk :: oX7 (pa 0) (pb 0) (pc 0) (zc 0) (zr 0) (zl 0) (zw 0) (zf 0) :: aI cI (pb 0) 10 (zb 0) :: aI cI (pc 0) 3 (zs 0) :: oX7 (pa 1) (pb 1) (pc 1) (zc 1) (zr 1) (zl 1) (zw 1) (zf 1) :: aI cI (pb 1) 10 (zb 1) :: aI cI (pc 1) 3 (zs 1) :: X) H := hPD.1
  have hD : va_D A (oX6 sn kv kt :: oX7 w wb ws wc wr wl ww wf :: aI cI wb 10 wbl :: aI cI ws 3 wse :: aW cW kv 2 svf :: aZ cZ kt 2 gtk :: oX7 (pa 0) (pb 0) (pc 0) (zc 0) (zr 0) (zl 0) (zw 0) (zf 0) :: aI cI (pb 0) 10 (zb 0) :: aI cI (pc 0) 3 (zs 0) :: oX7 (pa 1) (pb 1) (pc 1) (zc 1) (zr 1) (zl 1) (zw 1) (zf 1) :: aI cI (pb 1) 10 (zb 1) :: aI cI (pc 1) 3 (zs 1) :: X) := hPD.2
  refine lv_aload_n hx hb dX6_giveBack_8 rfl (lv_at hl 0 rfl) ?_
  refine va_get (D := D) (ci := 6) (v := .ref kv) (C := RX6) (T := TX6) (N := 2) hx hb hts hiX6 hown hK hP 0 rfl rfl 0 (by decide) (hts (.fieldLink RX6 11 "LedgeLeaps$Snapshots" "kept" "[LLedgeLeaps$World;") (List.mem_of_getElem? (i := 1) rfl)) (fun _ h9 => h9) rfl dX6_giveBack_9 ?_
  refine lv_iload_n hx hb dX6_giveBack_12 rfl (lv_at hl 1 rfl) ?_
  refine va_aldr (v := (pa 0)) hx hb hK hP 4 2 rfl rfl (vp_ix (rfl) (by decide) (by decide)) (hsv 0 (by decide)) dX6_giveBack_13 ?_
  refine lv_goto (tgt := 18) hx hb dX6_giveBack_14 (by decide) ?_
  refine lv_astore_n (lv' := [(3, .ref (pa 0)), (0, .ref sn), (1, .int (nI 0)), (2, .ref w)]) hx hb dX6_giveBack_18 rfl hl (by decide) rfl (fun ls hl => ?_)
  refine lv_aload_n hx hb dX6_giveBack_19 rfl (lv_at hl 0 rfl) ?_
  refine lv_ifnull hx hb dX6_giveBack_20 ?_
  refine lv_aload_n hx hb dX6_giveBack_23 rfl (lv_at hl 3 rfl) ?_
  refine lv_aload_n hx hb dX6_giveBack_24 rfl (lv_at hl 0 rfl) ?_
  refine cV_v CF hK hN hA hS (cut_of 12 [1, 2, 3, 6, 7, 8, 0, 4, 5, 9, 10, 11] hP hD rfl rfl rfl) (m_becomeLike l D cI cZ cW cJ A (oX6 sn kv kt :: aW cW kv 2 svf :: aZ cZ kt 2 gtk :: oX7 (pa 1) (pb 1) (pc 1) (zc 1) (zr 1) (zl 1) (zw 1) (zf 1) :: aI cI (pb 1) 10 (zb 1) :: aI cI (pc 1) 3 (zs 1) :: X) w wb ws wc wr wl ww wf wbl wse (pa 0) (pb 0) (pc 0) (zc 0) (zr 0) (zl 0) (zw 0) (zf 0) (zb 0) (zs 0)) (cwV 1 hts gX6_giveBack_X7_becomeLike rfl rfl rfl (by decide +kernel) ⟨Nat.le_of_ble_eq_true rfl, Nat.le_of_ble_eq_true rfl⟩) (As := [.ref (pa 0)]) (rest := []) (ci := 7) (q0 := 0) rfl rfl rfl hl.1 rfl (Nat.le_of_ble_eq_true rfl) dX6_giveBack_25 ⟨Nat.le_of_ble_eq_true rfl, Nat.le_of_ble_eq_true rfl⟩ (fun u_25 H locs hq hP hD hS => ?_)
  have hq_25 : (∀ j, j < 10 → u_25.1 j = (zb 0) j) ∧ (∀ j, j < 3 → u_25.2 j = (zs 0) j) := hq
  have hP : va_P D vwCl (oX6 sn kv kt :: oX7 w wb ws (zc 0) (zr 0) (zl 0) (zw 0) (zf 0) :: aI cI wb 10 u_25.1 :: aI cI ws 3 u_25.2 :: aW cW kv 2 svf :: aZ cZ kt 2 gtk :: oX7 (pa 0) (pb 0) (pc 0) (zc 0) (zr 0) (zl 0) (zw 0) (zf 0) :: aI cI (pb 0) 10 (zb 0) :: aI cI (pc 0) 3 (zs 0) :: oX7 (pa 1) (pb 1) (pc 1) (zc 1) (zr 1) (zl 1) (zw 1) (zf 1) :: aI cI (pb 1) 10 (zb 1) :: aI cI (pc 1) 3 (zs 1) :: X) H := pm_P hP 12 [6, 0, 1, 2, 7, 8, 3, 4, 5, 9, 10, 11] rfl
  have hD : va_D A (oX6 sn kv kt :: oX7 w wb ws (zc 0) (zr 0) (zl 0) (zw 0) (zf 0) :: aI cI wb 10 u_25.1 :: aI cI ws 3 u_25.2 :: aW cW kv 2 svf :: aZ cZ kt 2 gtk :: oX7 (pa 0) (pb 0) (pc 0) (zc 0) (zr 0) (zl 0) (zw 0) (zf 0) :: aI cI (pb 0) 10 (zb 0) :: aI cI (pc 0) 3 (zs 0) :: oX7 (pa 1) (pb 1) (pc 1) (zc 1) (zr 1) (zl 1) (zw 1) (zf 1) :: aI cI (pb 1) 10 (zb 1) :: aI cI (pc 1) 3 (zs 1) :: X) := pm_D hD 12 [6, 0, 1, 2, 7, 8, 3, 4, 5, 9, 10, 11] rfl rfl rfl
  have hPD := blk_back (w := [oX6 sn kv kt, oX7 w wb ws (zc 0) (zr 0) (zl 0) (zw 0) (zf 0), aI cI wb 10 u_25.1, aI cI ws 3 u_25.2]) (B := [aW cW kv 2 svf, aZ cZ kt 2 gtk, oX7 (pa 0) (pb 0) (pc 0) (zc 0) (zr 0) (zl 0) (zw 0) (zf 0), aI cI (pb 0) 10 (zb 0), aI cI (pc 0) 3 (zs 0), oX7 (pa 1) (pb 1) (pc 1) (zc 1) (zr 1) (zl 1) (zw 1) (zf 1), aI cI (pb 1) 10 (zb 1), aI cI (pc 1) 3 (zs 1)]) hP hD
  have hP := hPD.1
  have hD := hPD.2
  exact W.vret hx hb hr (fun t9 ht9 hW9 => ⟨⟨(zc 0, zr 0, zl 0, zw 0, zf 0, u_25.1, u_25.2), rfl, (hH 0 (by decide) htk).cong hq_25.1 hq_25.2, by rw [ht9]; exact hP, hD⟩, hS.F ht9⟩) hS.2.2 dX6_giveBack_28
set_option maxHeartbeats 4000000 in
set_option maxRecDepth 100000 in
theorem m_give_1 (l : Launch) (D : va_G) (cI cZ cW cJ : ClassId) (A : Nat → Prop) (X : va_W) (sn kv kt : Nat) (w wb ws : Nat) (wc wr wl ww wf : Int32) (wbl wse : Nat → Int32) (SR : va_W) (slot : Nat → KS) (tk : Nat → Bool) (hR : SnapR cI cZ cW kv kt slot tk SR) (htk : tk 1 = true) : Met l yX6_giveBack wsX6_giveBack ({ frames := 2, cells := 0, slots := 0, locals := 61 }) (va_Pc [.ref sn, .int (nI 1), .ref w] (wd D (tyL cI cZ cW cJ) A (oX6 sn kv kt :: oX7 w wb ws wc wr wl ww wf :: aI cI wb 10 wbl :: aI cI ws 3 wse :: (X ++ SR)))) (va_Qv (fun (u : Int32 × Int32 × Int32 × Int32 × Int32 × (Nat → Int32) × (Nat → Int32)) => AbsX (slot 1) u.2.2.2.2.2.1 u.2.2.2.2.2.2 u.1 u.2.1 u.2.2.1 u.2.2.2.1 u.2.2.2.2.1) (fun (u : Int32 × Int32 × Int32 × Int32 × Int32 × (Nat → Int32) × (Nat → Int32)) t => wq D A (oX6 sn kv kt :: oX7 w wb ws u.1 u.2.1 u.2.2.1 u.2.2.2.1 u.2.2.2.2.1 :: aI cI wb 10 u.2.2.2.2.2.1 :: aI cI ws 3 u.2.2.2.2.2.2 :: (X ++ SR)) t) A) 0 0 A := by
  refine Met.ofW (cc := cX6_giveBack) (maxL := 4) (ret := none) (by decide) rfl ?_
  intro p e s m args below meth c s₁ B hml hv
  obtain ⟨rfl, hsz9, hP, hK, hD, hN⟩ := hv
  have hx := B.exec
  have hb := B.bytes
  have hr := B.returns
  have hts := atoms_spec (ws := wsX6_giveBack) B.pre
  have hown : s.vm.findClass RX6 = some m.cls := findClass_of_methodNamed B.named
  have hlocks := B.notSynchronized
  have CF : CallFix p m c cX6_giveBack 4 s _ wsX6_giveBack RX6 := ⟨hx, hb, hml, hown, hts⟩
  have hA : ∀ q : Nat, s.heap.size ≤ q → A q := hsz9
  have hS : va_S A s.heap s.heap [] := va_S.rf
  have hiX6 : ∀ w ∈ u_ws RX6 TX6 2, w ∈ wsX6_giveBack := fun _ h => List.mem_cons_of_mem _ (List.mem_append_left _ (List.mem_append_right _ (h)))
  have hl := lv_entry ([.ref sn, .int (nI 1), .ref w]) (n := 4) (Nat.le_of_ble_eq_true rfl)
  rw [lg_entry_eq]
  generalize (lg_sl ([.ref sn, .int (nI 1), .ref w]) ++ List.replicate (4 - (lg_sl ([.ref sn, .int (nI 1), .ref w])).length) Slot.unset).toArray = ls at hl ⊢
  have hl : lv_has ls 4 [(0, .ref sn), (1, .int (nI 1)), (2, .ref w)] := hl
  show W p l e ({ frames := 2, cells := 0, slots := 0, locals := 61 } : Room) s m (([.ref sn, .int (nI 1), .ref w] : List Value).toArray) below meth c s.heap [] 0 0 (MQ below (va_Qv (fun (u : Int32 × Int32 × Int32 × Int32 × Int32 × (Nat → Int32) × (Nat → Int32)) => AbsX (slot 1) u.2.2.2.2.2.1 u.2.2.2.2.2.2 u.1 u.2.1 u.2.2.1 u.2.2.2.1 u.2.2.2.2.1) (fun (u : Int32 × Int32 × Int32 × Int32 × Int32 × (Nat → Int32) × (Nat → Int32)) t => wq D A (oX6 sn kv kt :: oX7 w wb ws u.1 u.2.1 u.2.2.1 u.2.2.2.1 u.2.2.2.2.1 :: aI cI wb 10 u.2.2.2.2.2.1 :: aI cI ws 3 u.2.2.2.2.2.2 :: (X ++ SR)) t) A) (([.ref sn, .int (nI 1), .ref w] : List Value).toArray) s 0 0 A) (F0 m 0 ls [])
  refine lv_aload_n hx hb dX6_giveBack_0 rfl (lv_at hl 0 rfl) ?_
  refine lv_iload_n hx hb dX6_giveBack_1 rfl (lv_at hl 1 rfl) ?_
  refine cV_i CF hK hN hA hS (cut_of 4 [0, 1, 2, 3] hP hD rfl rfl rfl) (m_snapHas l D cI cZ cW cJ A (oX7 w wb ws wc wr wl ww wf :: aI cI wb 10 wbl :: aI cI ws 3 wse :: X) sn kv kt SR slot tk 1 (by decide) hR) (cwV 1 hts gX6_giveBack_X6_has rfl rfl rfl (by decide +kernel) ⟨Nat.le_of_ble_eq_true rfl, Nat.le_of_ble_eq_true rfl⟩) (As := [.int (nI 1)]) (rest := []) (ci := 6) (q0 := 0) rfl rfl rfl hl.1 rfl (Nat.le_of_ble_eq_true rfl) dX6_giveBack_2 ⟨Nat.le_of_ble_eq_true rfl, Nat.le_of_ble_eq_true rfl⟩ (fun r_2 _ H locs hq hP hD hS => ?_)
  have hq : r_2 = bI (tk 1) := hq
  subst hq
  have hP : va_P D vwCl (oX6 sn kv kt :: oX7 w wb ws wc wr wl ww wf :: aI cI wb 10 wbl :: aI cI ws 3 wse :: (X ++ SR)) H := pm_P hP 4 [0, 1, 2, 3] rfl
  have hD : va_D A (oX6 sn kv kt :: oX7 w wb ws wc wr wl ww wf :: aI cI wb 10 wbl :: aI cI ws 3 wse :: (X ++ SR)) := pm_D hD 4 [0, 1, 2, 3] rfl rfl rfl
  have c_5 : ¬ ((bI (tk 1)) : Int32) = 0 := by rw [htk]; decide
  refine lv_if_eq (tgt := 17) hx hb dX6_giveBack_5 (by decide) (fun q => absurd q c_5) (fun _ => ?_)
  obtain ⟨svf, gtk, pa, pb, pc, zb, zs, zc, zr, zl, zw, zf, rfl, hsv, hgt, hH⟩ := hR
  have hPD := blk_front (w := [oX6 sn kv kt, oX7 w wb ws wc wr wl ww wf, aI cI wb 10 wbl, aI cI ws 3 wse]) hP hD
  have hP : va_P D vwCl (oX6 sn kv kt :: oX7 w wb ws wc wr wl ww wf :: aI cI wb 10 wbl :: aI cI ws 3 wse :: aW cW kv 2 svf :: aZ cZ kt 2 gtk :: oX7 (pa 0) (pb 0) (pc 0) (zc 0) (zr 0) (zl 0) (zw 0) (zf 0) :: aI cI (pb 0) 10 (zb 0) :: aI cI (pc 0) 3 (zs 0) :: oX7 (pa 1) (pb 1) (pc 1) (zc 1) (zr 1) (zl 1) (zw 1) (zf 1) :: aI cI (pb 1) 10 (zb 1) :: aI cI (pc 1) 3 (zs 1) :: X) H := hPD.1
  have hD : va_D A (oX6 sn kv kt :: oX7 w wb ws wc wr wl ww wf :: aI cI wb 10 wbl :: aI cI ws 3 wse :: aW cW kv 2 svf :: aZ cZ kt 2 gtk :: oX7 (pa 0) (pb 0) (pc 0) (zc 0) (zr 0) (zl 0) (zw 0) (zf 0) :: aI cI (pb 0) 10 (zb 0) :: aI cI (pc 0) 3 (zs 0) :: oX7 (pa 1) (pb 1) (pc 1) (zc 1) (zr 1) (zl 1) (zw 1) (zf 1) :: aI cI (pb 1) 10 (zb 1) :: aI cI (pc 1) 3 (zs 1) :: X) := hPD.2
  refine lv_aload_n hx hb dX6_giveBack_8 rfl (lv_at hl 0 rfl) ?_
  refine va_get (D := D) (ci := 6) (v := .ref kv) (C := RX6) (T := TX6) (N := 2) hx hb hts hiX6 hown hK hP 0 rfl rfl 0 (by decide) (hts (.fieldLink RX6 11 "LedgeLeaps$Snapshots" "kept" "[LLedgeLeaps$World;") (List.mem_of_getElem? (i := 1) rfl)) (fun _ h9 => h9) rfl dX6_giveBack_9 ?_
  refine lv_iload_n hx hb dX6_giveBack_12 rfl (lv_at hl 1 rfl) ?_
  refine va_aldr (v := (pa 1)) hx hb hK hP 4 2 rfl rfl (vp_ix (rfl) (by decide) (by decide)) (hsv 1 (by decide)) dX6_giveBack_13 ?_
  refine lv_goto (tgt := 18) hx hb dX6_giveBack_14 (by decide) ?_
  refine lv_astore_n (lv' := [(3, .ref (pa 1)), (0, .ref sn), (1, .int (nI 1)), (2, .ref w)]) hx hb dX6_giveBack_18 rfl hl (by decide) rfl (fun ls hl => ?_)
  refine lv_aload_n hx hb dX6_giveBack_19 rfl (lv_at hl 0 rfl) ?_
  refine lv_ifnull hx hb dX6_giveBack_20 ?_
  refine lv_aload_n hx hb dX6_giveBack_23 rfl (lv_at hl 3 rfl) ?_
  refine lv_aload_n hx hb dX6_giveBack_24 rfl (lv_at hl 0 rfl) ?_
  refine cV_v CF hK hN hA hS (cut_of 12 [1, 2, 3, 9, 10, 11, 0, 4, 5, 6, 7, 8] hP hD rfl rfl rfl) (m_becomeLike l D cI cZ cW cJ A (oX6 sn kv kt :: aW cW kv 2 svf :: aZ cZ kt 2 gtk :: oX7 (pa 0) (pb 0) (pc 0) (zc 0) (zr 0) (zl 0) (zw 0) (zf 0) :: aI cI (pb 0) 10 (zb 0) :: aI cI (pc 0) 3 (zs 0) :: X) w wb ws wc wr wl ww wf wbl wse (pa 1) (pb 1) (pc 1) (zc 1) (zr 1) (zl 1) (zw 1) (zf 1) (zb 1) (zs 1)) (cwV 1 hts gX6_giveBack_X7_becomeLike rfl rfl rfl (by decide +kernel) ⟨Nat.le_of_ble_eq_true rfl, Nat.le_of_ble_eq_true rfl⟩) (As := [.ref (pa 1)]) (rest := []) (ci := 7) (q0 := 0) rfl rfl rfl hl.1 rfl (Nat.le_of_ble_eq_true rfl) dX6_giveBack_25 ⟨Nat.le_of_ble_eq_true rfl, Nat.le_of_ble_eq_true rfl⟩ (fun u_25 H locs hq hP hD hS => ?_)
  have hq_25 : (∀ j, j < 10 → u_25.1 j = (zb 1) j) ∧ (∀ j, j < 3 → u_25.2 j = (zs 1) j) := hq
  have hP : va_P D vwCl (oX6 sn kv kt :: oX7 w wb ws (zc 1) (zr 1) (zl 1) (zw 1) (zf 1) :: aI cI wb 10 u_25.1 :: aI cI ws 3 u_25.2 :: aW cW kv 2 svf :: aZ cZ kt 2 gtk :: oX7 (pa 0) (pb 0) (pc 0) (zc 0) (zr 0) (zl 0) (zw 0) (zf 0) :: aI cI (pb 0) 10 (zb 0) :: aI cI (pc 0) 3 (zs 0) :: oX7 (pa 1) (pb 1) (pc 1) (zc 1) (zr 1) (zl 1) (zw 1) (zf 1) :: aI cI (pb 1) 10 (zb 1) :: aI cI (pc 1) 3 (zs 1) :: X) H := pm_P hP 12 [6, 0, 1, 2, 7, 8, 9, 10, 11, 3, 4, 5] rfl
  have hD : va_D A (oX6 sn kv kt :: oX7 w wb ws (zc 1) (zr 1) (zl 1) (zw 1) (zf 1) :: aI cI wb 10 u_25.1 :: aI cI ws 3 u_25.2 :: aW cW kv 2 svf :: aZ cZ kt 2 gtk :: oX7 (pa 0) (pb 0) (pc 0) (zc 0) (zr 0) (zl 0) (zw 0) (zf 0) :: aI cI (pb 0) 10 (zb 0) :: aI cI (pc 0) 3 (zs 0) :: oX7 (pa 1) (pb 1) (pc 1) (zc 1) (zr 1) (zl 1) (zw 1) (zf 1) :: aI cI (pb 1) 10 (zb 1) :: aI cI (pc 1) 3 (zs 1) :: X) := pm_D hD 12 [6, 0, 1, 2, 7, 8, 9, 10, 11, 3, 4, 5] rfl rfl rfl
  have hPD := blk_back (w := [oX6 sn kv kt, oX7 w wb ws (zc 1) (zr 1) (zl 1) (zw 1) (zf 1), aI cI wb 10 u_25.1, aI cI ws 3 u_25.2]) (B := [aW cW kv 2 svf, aZ cZ kt 2 gtk, oX7 (pa 0) (pb 0) (pc 0) (zc 0) (zr 0) (zl 0) (zw 0) (zf 0), aI cI (pb 0) 10 (zb 0), aI cI (pc 0) 3 (zs 0), oX7 (pa 1) (pb 1) (pc 1) (zc 1) (zr 1) (zl 1) (zw 1) (zf 1), aI cI (pb 1) 10 (zb 1), aI cI (pc 1) 3 (zs 1)]) hP hD
  have hP := hPD.1
  have hD := hPD.2
  exact W.vret hx hb hr (fun t9 ht9 hW9 => ⟨⟨(zc 1, zr 1, zl 1, zw 1, zf 1, u_25.1, u_25.2), rfl, (hH 1 (by decide) htk).cong hq_25.1 hq_25.2, by rw [ht9]; exact hP, hD⟩, hS.F ht9⟩) hS.2.2 dX6_giveBack_28
theorem m_give (l : Launch) (D : va_G) (cI cZ cW cJ : ClassId) (A : Nat → Prop) (X : va_W) (sn kv kt : Nat) (w wb ws : Nat) (wc wr wl ww wf : Int32) (wbl wse : Nat → Int32) (SR : va_W) (slot : Nat → KS) (tk : Nat → Bool) (ks : Nat) (hks : ks < 2) (hR : SnapR cI cZ cW kv kt slot tk SR) (htk : tk ks = true) : Met l yX6_giveBack wsX6_giveBack ({ frames := 2, cells := 0, slots := 0, locals := 61 }) (va_Pc [.ref sn, .int (nI ks), .ref w] (wd D (tyL cI cZ cW cJ) A (oX6 sn kv kt :: oX7 w wb ws wc wr wl ww wf :: aI cI wb 10 wbl :: aI cI ws 3 wse :: (X ++ SR)))) (va_Qv (fun (u : Int32 × Int32 × Int32 × Int32 × Int32 × (Nat → Int32) × (Nat → Int32)) => AbsX (slot ks) u.2.2.2.2.2.1 u.2.2.2.2.2.2 u.1 u.2.1 u.2.2.1 u.2.2.2.1 u.2.2.2.2.1) (fun (u : Int32 × Int32 × Int32 × Int32 × Int32 × (Nat → Int32) × (Nat → Int32)) t => wq D A (oX6 sn kv kt :: oX7 w wb ws u.1 u.2.1 u.2.2.1 u.2.2.2.1 u.2.2.2.2.1 :: aI cI wb 10 u.2.2.2.2.2.1 :: aI cI ws 3 u.2.2.2.2.2.2 :: (X ++ SR)) t) A) 0 0 A := by
  rcases (show ks = 0 ∨ ks = 1 by omega) with rfl | rfl
  · exact m_give_0 l D cI cZ cW cJ A X sn kv kt w wb ws wc wr wl ww wf wbl wse SR slot tk hR htk
  · exact m_give_1 l D cI cZ cW cJ A X sn kv kt w wb ws wc wr wl ww wf wbl wse SR slot tk hR htk
