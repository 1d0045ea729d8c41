set_option maxHeartbeats 4000000 in
set_option maxRecDepth 100000 in
theorem m_addLeaps (l : Launch) (D : va_G) (cI cZ cW cJ : ClassId) (A : Nat → Prop) (X : va_W) (re rl rf : Nat) (rs : Int32) (glr : Nat → Int32) (fc fr ft fo fm fs fi : Int32) (w wb ws : Nat) (wc wr wl ww wf : Int32) (wbl wse : Nat → Int32) (mm mro mfi mle mlo : Nat) (glo : Nat → Int32) (sz : Nat) (ac ar : Nat) (xd : Int32) (hac : ac < 20) (har : ar < 10) (hlo : ∀ i, i < 200 → glo i = lgF (SB (blkX wbl)) i) (hse : SeR (wse 0) (wse 1) (wse 2)) : Met l yX4_addLeaps wsX4_addLeaps ({ frames := 3, cells := 0, slots := 0, locals := 71 }) (va_Pc [.ref re, .ref w, .ref mm, .int (nI ac), .int (nI ar), .int xd] (wd D (tyL cI cZ cW cJ) A (oX4 re rs rl rf :: aI cI rl 10000 glr :: oX0 rf fc fr ft fo fm fs fi :: oX7 w wb ws wc wr wl ww wf :: aI cI wb 10 wbl :: aI cI ws 3 wse :: oX2 mm mro mfi mle (nI sz) mlo :: aI cI mlo 200 glo :: X))) (va_Qv (fun (u : (Nat → Int32) × Int32 × Int32 × Int32 × Int32 × Int32 × Int32 × Int32) => ∀ E, InvN (-1) 10000 glr E → InvN (-1) 10000 u.1 (fun p9 k9 => E p9 k9 ∨ Ev (blkX wbl) (wse 0) (wse 1) (wse 2) (20 * ar + ac) xd k9 p9)) (fun (u : (Nat → Int32) × Int32 × Int32 × Int32 × Int32 × Int32 × Int32 × Int32) t => wq D A (oX4 re rs rl rf :: aI cI rl 10000 u.1 :: oX0 rf u.2.1 u.2.2.1 u.2.2.2.1 u.2.2.2.2.1 u.2.2.2.2.2.1 u.2.2.2.2.2.2.1 u.2.2.2.2.2.2.2 :: oX7 w wb ws wc wr wl ww wf :: aI cI wb 10 wbl :: aI cI ws 3 wse :: oX2 mm mro mfi mle (nI sz) mlo :: aI cI mlo 200 glo :: X) t) A) 0 0 A := by
  refine Met.ofW (cc := cX4_addLeaps) (maxL := 11) (ret := none) (by decide) rfl ?_
  intro p e s m args below meth c s₁ B hml hv
  obtain ⟨rfl, hsz9, hP, hK, hD, hN⟩ := hv
  have hx := B.exec
  have hb := B.bytes
  have hr := B.returns
  have hts := atoms_spec (ws := wsX4_addLeaps) B.pre
  have hown : s.vm.findClass RX4 = some m.cls := findClass_of_methodNamed B.named
  have hlocks := B.notSynchronized
  have CF : CallFix p m c cX4_addLeaps 11 s _ wsX4_addLeaps RX4 := ⟨hx, hb, hml, hown, hts⟩
  have hA : ∀ q : Nat, s.heap.size ≤ q → A q := hsz9
  have hS : va_S A s.heap s.heap [] := va_S.rf
  have hiX0 : ∀ w ∈ u_ws RX0 TX0 7, w ∈ wsX4_addLeaps := fun _ h => List.mem_cons_of_mem _ (List.mem_append_left _ (List.mem_append_left _ (List.mem_append_right _ (h))))
  have hiX4 : ∀ w ∈ u_ws RX4 TX4 3, w ∈ wsX4_addLeaps := fun _ h => List.mem_cons_of_mem _ (List.mem_append_left _ (List.mem_append_left _ (List.mem_append_left _ (List.mem_append_right _ (h)))))
  have hl := lv_entry ([.ref re, .ref w, .ref mm, .int (nI ac), .int (nI ar), .int xd]) (n := 11) (Nat.le_of_ble_eq_true rfl)
  rw [lg_entry_eq]
  generalize (lg_sl ([.ref re, .ref w, .ref mm, .int (nI ac), .int (nI ar), .int xd]) ++ List.replicate (11 - (lg_sl ([.ref re, .ref w, .ref mm, .int (nI ac), .int (nI ar), .int xd])).length) Slot.unset).toArray = ls at hl ⊢
  have hl : lv_has ls 11 [(0, .ref re), (1, .ref w), (2, .ref mm), (3, .int (nI ac)), (4, .int (nI ar)), (5, .int xd)] := hl
  show W p l e ({ frames := 3, cells := 0, slots := 0, locals := 71 } : Room) s m (([.ref re, .ref w, .ref mm, .int (nI ac), .int (nI ar), .int xd] : List Value).toArray) below meth c s.heap [] 0 0 (MQ below (va_Qv (fun (u : (Nat → Int32) × Int32 × Int32 × Int32 × Int32 × Int32 × Int32 × Int32) => ∀ E, InvN (-1) 10000 glr E → InvN (-1) 10000 u.1 (fun p9 k9 => E p9 k9 ∨ Ev (blkX wbl) (wse 0) (wse 1) (wse 2) (20 * ar + ac) xd k9 p9)) (fun (u : (Nat → Int32) × Int32 × Int32 × Int32 × Int32 × Int32 × Int32 × Int32) t => wq D A (oX4 re rs rl rf :: aI cI rl 10000 u.1 :: oX0 rf u.2.1 u.2.2.1 u.2.2.2.1 u.2.2.2.2.1 u.2.2.2.2.2.1 u.2.2.2.2.2.2.1 u.2.2.2.2.2.2.2 :: oX7 w wb ws wc wr wl ww wf :: aI cI wb 10 wbl :: aI cI ws 3 wse :: oX2 mm mro mfi mle (nI sz) mlo :: aI cI mlo 200 glo :: X) t) A) (([.ref re, .ref w, .ref mm, .int (nI ac), .int (nI ar), .int xd] : List Value).toArray) s 0 0 A) (F0 m 0 ls [])
  refine lv_aload_n hx hb dX4_addLeaps_0 rfl (lv_at hl 2 rfl) ?_
  refine lv_iload_n hx hb dX4_addLeaps_1 rfl (lv_at hl 3 rfl) ?_
  refine lv_iload hx hb dX4_addLeaps_2 (lv_at hl 4 rfl) ?_
  refine cV_i CF hK hN hA hS (cut_of 8 [6, 7, 0, 1, 2, 3, 4, 5] hP hD rfl rfl rfl) (m_ledgeAt l D cI cZ cW cJ A (oX4 re rs rl rf :: aI cI rl 10000 glr :: oX0 rf fc fr ft fo fm fs fi :: oX7 w wb ws wc wr wl ww wf :: aI cI wb 10 wbl :: aI cI ws 3 wse :: X) mm mro mfi mle mlo glo sz (nI ac) (nI ar)) (cwV 2 hts gX4_addLeaps_X2_ledgeAt rfl rfl rfl (by decide +kernel) ⟨Nat.le_of_ble_eq_true rfl, Nat.le_of_ble_eq_true rfl⟩) (As := [.int (nI ac), .int (nI ar)]) (rest := []) (ci := 2) (q0 := 0) rfl rfl rfl hl.1 rfl (Nat.le_of_ble_eq_true rfl) dX4_addLeaps_4 ⟨Nat.le_of_ble_eq_true rfl, Nat.le_of_ble_eq_true rfl⟩ (fun r_4 _ H locs hq hP hD hS => ?_)
  have hq : r_4 = laX glo (nI ac) (nI ar) := hq
  subst hq
  have hP : va_P D vwCl (oX4 re rs rl rf :: aI cI rl 10000 glr :: oX0 rf fc fr ft fo fm fs fi :: oX7 w wb ws wc wr wl ww wf :: aI cI wb 10 wbl :: aI cI ws 3 wse :: oX2 mm mro mfi mle (nI sz) mlo :: aI cI mlo 200 glo :: X) H := pm_P hP 8 [2, 3, 4, 5, 6, 7, 0, 1] rfl
  have hD : va_D A (oX4 re rs rl rf :: aI cI rl 10000 glr :: oX0 rf fc fr ft fo fm fs fi :: oX7 w wb ws wc wr wl ww wf :: aI cI wb 10 wbl :: aI cI ws 3 wse :: oX2 mm mro mfi mle (nI sz) mlo :: aI cI mlo 200 glo :: X) := pm_D hD 8 [2, 3, 4, 5, 6, 7, 0, 1] rfl rfl rfl
  refine lv_istore (lv' := [(6, .int (laX glo (nI ac) (nI ar))), (0, .ref re), (1, .ref w), (2, .ref mm), (3, .int (nI ac)), (4, .int (nI ar)), (5, .int xd)]) hx hb dX4_addLeaps_7 hl (by decide) rfl (fun ls hl => ?_)
  refine lv_aload_n hx hb dX4_addLeaps_9 rfl (lv_at hl 2 rfl) ?_
  refine lv_iload_n hx hb dX4_addLeaps_10 rfl (lv_at hl 4 rfl) ?_
  refine lv_iload hx hb dX4_addLeaps_11 (lv_at hl 5 rfl) ?_
  refine lv_iload hx hb dX4_addLeaps_13 (lv_at hl 6 rfl) ?_
  refine cV_i CF hK hN hA hS (cut_of 8 [3, 4, 0, 1, 2, 5, 6, 7] hP hD rfl rfl rfl) (m_greatestRunUp l D cI cZ cW cJ A (oX4 re rs rl rf :: aI cI rl 10000 glr :: oX0 rf fc fr ft fo fm fs fi :: aI cI ws 3 wse :: oX2 mm mro mfi mle (nI sz) mlo :: aI cI mlo 200 glo :: X) w wb ws wc wr wl ww wf wbl (nI ac) (nI ar) xd) (cwV 3 hts gX4_addLeaps_X7_greatestRunUp rfl rfl rfl (by decide +kernel) ⟨Nat.le_of_ble_eq_true rfl, Nat.le_of_ble_eq_true rfl⟩) (As := [.int (nI ac), .int (nI ar), .int xd]) (rest := []) (ci := 7) (q0 := 0) rfl rfl rfl hl.1 rfl (Nat.le_of_ble_eq_true rfl) dX4_addLeaps_15 ⟨Nat.le_of_ble_eq_true rfl, Nat.le_of_ble_eq_true rfl⟩ (fun r_15 _ H locs hq hP hD hS => ?_)
  have hq : r_15 = grB (blkX wbl) (nI ac) (nI ar) xd := hq
  subst hq
  have hP : va_P D vwCl (oX4 re rs rl rf :: aI cI rl 10000 glr :: oX0 rf fc fr ft fo fm fs fi :: oX7 w wb ws wc wr wl ww wf :: aI cI wb 10 wbl :: aI cI ws 3 wse :: oX2 mm mro mfi mle (nI sz) mlo :: aI cI mlo 200 glo :: X) H := pm_P hP 8 [2, 3, 4, 0, 1, 5, 6, 7] rfl
  have hD : va_D A (oX4 re rs rl rf :: aI cI rl 10000 glr :: oX0 rf fc fr ft fo fm fs fi :: oX7 w wb ws wc wr wl ww wf :: aI cI wb 10 wbl :: aI cI ws 3 wse :: oX2 mm mro mfi mle (nI sz) mlo :: aI cI mlo 200 glo :: X) := pm_D hD 8 [2, 3, 4, 0, 1, 5, 6, 7] rfl rfl rfl
  refine lv_istore (lv' := [(7, .int (grB (blkX wbl) (nI ac) (nI ar) xd)), (6, .int (laX glo (nI ac) (nI ar))), (0, .ref re), (1, .ref w), (2, .ref mm), (3, .int (nI ac)), (4, .int (nI ar)), (5, .int xd)]) hx hb dX4_addLeaps_18 hl (by decide) rfl (fun ls hl => ?_)
  refine lv_iconst (v := 0) hx hb dX4_addLeaps_20 (by decide) ?_
  refine lv_istore (lv' := [(8, .int 0), (7, .int (grB (blkX wbl) (nI ac) (nI ar) xd)), (6, .int (laX glo (nI ac) (nI ar))), (0, .ref re), (1, .ref w), (2, .ref mm), (3, .int (nI ac)), (4, .int (nI ar)), (5, .int xd)]) hx hb dX4_addLeaps_21 hl (by decide) rfl (fun ls hl => ?_)
  have loop_23 : ∀ (nfu : Nat) (ku : Nat) (g : Nat → Int32) (va vb vc vd ve vf vg : Int32) (hn_23 : 4 - ku < nfu) (hku : ku ≤ 4) (hI : ∀ E, InvN (-1) 10000 glr E → InvN (-1) 10000 g (fun p k => E p k ∨ (k < ku ∧ Ev (blkX wbl) (wse 0) (wse 1) (wse 2) (20 * ar + ac) xd k p))) (H : Heap) (locs : List Loc) (hP : va_P D vwCl (oX4 re rs rl rf :: aI cI rl 10000 g :: oX0 rf va vb vc vd ve vf vg :: oX7 w wb ws wc wr wl ww wf :: aI cI wb 10 wbl :: aI cI ws 3 wse :: oX2 mm mro mfi mle (nI sz) mlo :: aI cI mlo 200 glo :: X) H) (hD : va_D A (oX4 re rs rl rf :: aI cI rl 10000 g :: oX0 rf va vb vc vd ve vf vg :: oX7 w wb ws wc wr wl ww wf :: aI cI wb 10 wbl :: aI cI ws 3 wse :: oX2 mm mro mfi mle (nI sz) mlo :: aI cI mlo 200 glo :: X)) (hS : va_S A s.heap H locs) (ls : Array Slot) (hl : lv_has ls 11 [(8, .int (nI ku)), (0, .ref re), (1, .ref w), (2, .ref mm), (3, .int (nI ac)), (4, .int (nI ar)), (5, .int xd), (6, .int (laX glo (nI ac) (nI ar))), (7, .int (grB (blkX wbl) (nI ac) (nI ar) xd))]), W p l e ({ frames := 3, cells := 0, slots := 0, locals := 71 } : Room) s m (([.ref re, .ref w, .ref mm, .int (nI ac), .int (nI ar), .int xd] : List Value).toArray) below meth c H locs 0 0 (MQ below (va_Qv (fun (u : (Nat → Int32) × Int32 × Int32 × Int32 × Int32 × Int32 × Int32 × Int32) => ∀ E, InvN (-1) 10000 glr E → InvN (-1) 10000 u.1 (fun p9 k9 => E p9 k9 ∨ Ev (blkX wbl) (wse 0) (wse 1) (wse 2) (20 * ar + ac) xd k9 p9)) (fun (u : (Nat → Int32) × Int32 × Int32 × Int32 × Int32 × Int32 × Int32 × Int32) t => wq D A (oX4 re rs rl rf :: aI cI rl 10000 u.1 :: oX0 rf u.2.1 u.2.2.1 u.2.2.2.1 u.2.2.2.2.1 u.2.2.2.2.2.1 u.2.2.2.2.2.2.1 u.2.2.2.2.2.2.2 :: oX7 w wb ws wc wr wl ww wf :: aI cI wb 10 wbl :: aI cI ws 3 wse :: oX2 mm mro mfi mle (nI sz) mlo :: aI cI mlo 200 glo :: X) t) A) (([.ref re, .ref w, .ref mm, .int (nI ac), .int (nI ar), .int xd] : List Value).toArray) s 0 0 A) (F0 m 23 ls []) := by
    intro nfu
    induction nfu with
    | zero => intro ku g va vb vc vd ve vf vg hn_23; exact absurd hn_23 (Nat.not_lt_zero _)
    | succ nfu ih_23 =>
      intro ku g va vb vc vd ve vf vg hn_23 hku hI H locs hP hD hS ls hl
      refine lv_iload hx hb dX4_addLeaps_23 (lv_at hl 0 rfl) ?_
      refine lv_iload hx hb dX4_addLeaps_25 (lv_at hl 8 rfl) ?_
      refine lv_icmp_gt (tgt := 112) hx hb dX4_addLeaps_27 (by decide) (fun c_27 => ?_) (fun c_27 => ?_)
      · exact W.vret hx hb hr (fun t9 ht9 hW9 => ⟨⟨(g, va, vb, vc, vd, ve, vf, vg), rfl, leaps_end hac hku c_27 hI, by rw [ht9]; exact hP, hD⟩, hS.F ht9⟩) hS.2.2 dX4_addLeaps_112
      · have hg0 : nI ku ≤ grB (blkX wbl) (nI ac) (nI ar) xd := Int32.not_lt.mp c_27
        obtain ⟨hst, hk3⟩ := gr_le (by omega) hg0
        have hi0 : 20 * ar + ac < 200 := by omega
        have hm0 : (20 * ar + ac) % 20 = ac := by omega
        have hd0 : (20 * ar + ac) / 20 = ar := by omega
        have hS0 : SB (blkX wbl) (20 * ar + ac) = true := by rw [SB_rc hac]; exact hst
        obtain ⟨j, hj, hSj, e1, e2⟩ := flyR_land (d := xd) (blkX_OutB wbl) hse hi0 hS0 ku
        have hEv := Ev_one hi0 (by rw [hm0, hd0]; exact hg0) hk3 hj hSj e1 e2
        rw [hm0, hd0] at e1 e2
        have hl1 := lgN_lt hi0 hS0
        have hl2 := lgN_lt hj hSj
        refine lv_aload_n hx hb dX4_addLeaps_30 rfl (lv_at hl 1 rfl) ?_
        refine va_get (D := D) (ci := 4) (v := .ref rf) (C := RX4) (T := TX4) (N := 3) hx hb hts hiX4 hown hK hP 0 rfl rfl 2 (by decide) (hts (.fieldLink RX4 18 "LedgeLeaps$Reaches" "flight" "LLedgeLeaps$Flight;") (List.mem_of_getElem? (i := 1) rfl)) (fun _ h9 => h9) rfl dX4_addLeaps_31 ?_
        refine lv_aload_n hx hb dX4_addLeaps_34 rfl (lv_at hl 2 rfl) ?_
        refine lv_iload_n hx hb dX4_addLeaps_35 rfl (lv_at hl 4 rfl) ?_
        refine lv_iload hx hb dX4_addLeaps_36 (lv_at hl 5 rfl) ?_
        refine lv_iload hx hb dX4_addLeaps_38 (lv_at hl 6 rfl) ?_
        refine lv_iload hx hb dX4_addLeaps_40 (lv_at hl 0 rfl) ?_
        refine cV_v CF hK hN hA hS (cut_of 8 [2, 3, 4, 5, 0, 1, 6, 7] hP hD rfl rfl rfl) (m_fly l D cI cZ cW cJ A (oX4 re rs rl rf :: aI cI rl 10000 g :: oX2 mm mro mfi mle (nI sz) mlo :: aI cI mlo 200 glo :: X) rf va vb vc vd ve vf vg w wb ws wc wr wl ww wf wbl wse (nI ac) (nI ar) xd (nI ku)) (cwV 5 hts gX4_addLeaps_X0_fly rfl rfl rfl (by decide +kernel) ⟨Nat.le_of_ble_eq_true rfl, Nat.le_of_ble_eq_true rfl⟩) (As := [.ref w, .int (nI ac), .int (nI ar), .int xd, .int (nI ku)]) (rest := []) (ci := 0) (q0 := 0) rfl rfl rfl hl.1 rfl (Nat.le_of_ble_eq_true rfl) dX4_addLeaps_42 ⟨Nat.le_of_ble_eq_true rfl, Nat.le_of_ble_eq_true rfl⟩ (fun u_42 H locs hq hP hD hS => ?_)
        have hq_42 : u_42 = flyF (blkX wbl) xd (wse 1) (wse 2) 100 (nI ac) (nI ar) 0 (nI ar) false ((nI ku) + 1) (wse 0) := hq
        have hP : va_P D vwCl (oX4 re rs rl rf :: aI cI rl 10000 g :: oX0 rf u_42.1 u_42.2.1 u_42.2.2.1 u_42.2.2.2.1 (bI u_42.2.2.2.2.1) u_42.2.2.2.2.2.1 u_42.2.2.2.2.2.2 :: oX7 w wb ws wc wr wl ww wf :: aI cI wb 10 wbl :: aI cI ws 3 wse :: oX2 mm mro mfi mle (nI sz) mlo :: aI cI mlo 200 glo :: X) H := pm_P hP 8 [4, 5, 0, 1, 2, 3, 6, 7] rfl
        have hD : va_D A (oX4 re rs rl rf :: aI cI rl 10000 g :: oX0 rf u_42.1 u_42.2.1 u_42.2.2.1 u_42.2.2.2.1 (bI u_42.2.2.2.2.1) u_42.2.2.2.2.2.1 u_42.2.2.2.2.2.2 :: oX7 w wb ws wc wr wl ww wf :: aI cI wb 10 wbl :: aI cI ws 3 wse :: oX2 mm mro mfi mle (nI sz) mlo :: aI cI mlo 200 glo :: X) := pm_D hD 8 [4, 5, 0, 1, 2, 3, 6, 7] rfl rfl rfl
        have e1 : u_42.1 = nI (j % 20) := by rw [hq_42]; exact e1
        have e2 : u_42.2.1 = nI (j / 20) := by rw [hq_42]; exact e2
        rw [e1, e2] at hP hD
        have hP : va_P D vwCl (oX4 re rs rl rf :: aI cI rl 10000 g :: oX0 rf (nI (j % 20)) (nI (j / 20)) u_42.2.2.1 u_42.2.2.2.1 (bI u_42.2.2.2.2.1) u_42.2.2.2.2.2.1 u_42.2.2.2.2.2.2 :: oX7 w wb ws wc wr wl ww wf :: aI cI wb 10 wbl :: aI cI ws 3 wse :: oX2 mm mro mfi mle (nI sz) mlo :: aI cI mlo 200 glo :: X) H := hP
        have hD : va_D A (oX4 re rs rl rf :: aI cI rl 10000 g :: oX0 rf (nI (j % 20)) (nI (j / 20)) u_42.2.2.1 u_42.2.2.2.1 (bI u_42.2.2.2.2.1) u_42.2.2.2.2.2.1 u_42.2.2.2.2.2.2 :: oX7 w wb ws wc wr wl ww wf :: aI cI wb 10 wbl :: aI cI ws 3 wse :: oX2 mm mro mfi mle (nI sz) mlo :: aI cI mlo 200 glo :: X) := hD
        refine lv_iload hx hb dX4_addLeaps_45 (lv_at hl 7 rfl) ?_
        refine top_i (y := (nI (lgN (SB (blkX wbl)) (20 * ar + ac)))) (laX_S hlo hac har hS0) ?_
        refine lv_bipush (v := 100) hx hb dX4_addLeaps_47 (by decide) ?_
        refine lv_imul hx hb dX4_addLeaps_49 ?_
        refine top_i (y := (nI (100 * lgN (SB (blkX wbl)) (20 * ar + ac)))) (nI_100 _) ?_
        refine lv_aload_n hx hb dX4_addLeaps_50 rfl (lv_at hl 3 rfl) ?_
        refine lv_aload_n hx hb dX4_addLeaps_51 rfl (lv_at hl 1 rfl) ?_
        refine va_get (D := D) (ci := 4) (v := .ref rf) (C := RX4) (T := TX4) (N := 3) hx hb hts hiX4 hown hK hP 0 rfl rfl 2 (by decide) (hts (.fieldLink RX4 18 "LedgeLeaps$Reaches" "flight" "LLedgeLeaps$Flight;") (List.mem_of_getElem? (i := 1) rfl)) (fun _ h9 => h9) rfl dX4_addLeaps_52 ?_
        refine va_get (D := D) (ci := 0) (v := .int (nI (j % 20))) (C := RX0) (T := TX0) (N := 7) hx hb hts hiX0 hown hK hP 2 rfl rfl 0 (by decide) (hts (.fieldLink RX4 53 "LedgeLeaps$Flight" "column" "I") (List.mem_of_getElem? (i := 2) rfl)) (fun _ h9 => h9) rfl dX4_addLeaps_55 ?_
        refine lv_aload_n hx hb dX4_addLeaps_58 rfl (lv_at hl 1 rfl) ?_
        refine va_get (D := D) (ci := 4) (v := .ref rf) (C := RX4) (T := TX4) (N := 3) hx hb hts hiX4 hown hK hP 0 rfl rfl 2 (by decide) (hts (.fieldLink RX4 18 "LedgeLeaps$Reaches" "flight" "LLedgeLeaps$Flight;") (List.mem_of_getElem? (i := 1) rfl)) (fun _ h9 => h9) rfl dX4_addLeaps_59 ?_
        refine va_get (D := D) (ci := 0) (v := .int (nI (j / 20))) (C := RX0) (T := TX0) (N := 7) hx hb hts hiX0 hown hK hP 2 rfl rfl 1 (by decide) (hts (.fieldLink RX4 56 "LedgeLeaps$Flight" "row" "I") (List.mem_of_getElem? (i := 3) rfl)) (fun _ h9 => h9) rfl dX4_addLeaps_62 ?_
        refine cV_i CF hK hN hA hS (cut_of 8 [6, 7, 0, 1, 2, 3, 4, 5] hP hD rfl rfl rfl) (m_ledgeAt l D cI cZ cW cJ A (oX4 re rs rl rf :: aI cI rl 10000 g :: oX0 rf (nI (j % 20)) (nI (j / 20)) u_42.2.2.1 u_42.2.2.2.1 (bI u_42.2.2.2.2.1) u_42.2.2.2.2.2.1 u_42.2.2.2.2.2.2 :: oX7 w wb ws wc wr wl ww wf :: aI cI wb 10 wbl :: aI cI ws 3 wse :: X) mm mro mfi mle mlo glo sz (nI (j % 20)) (nI (j / 20))) (cwV 2 hts gX4_addLeaps_X2_ledgeAt rfl rfl rfl (by decide +kernel) ⟨Nat.le_of_ble_eq_true rfl, Nat.le_of_ble_eq_true rfl⟩) (As := [.int (nI (j % 20)), .int (nI (j / 20))]) (rest := [.int (nI (100 * lgN (SB (blkX wbl)) (20 * ar + ac)))]) (ci := 2) (q0 := 0) rfl rfl rfl hl.1 rfl (Nat.le_of_ble_eq_true rfl) dX4_addLeaps_65 ⟨Nat.le_of_ble_eq_true rfl, Nat.le_of_ble_eq_true rfl⟩ (fun r_65 _ H locs hq hP hD hS => ?_)
        have hq : r_65 = laX glo (nI (j % 20)) (nI (j / 20)) := hq
        subst hq
        have hP : va_P D vwCl (oX4 re rs rl rf :: aI cI rl 10000 g :: oX0 rf (nI (j % 20)) (nI (j / 20)) u_42.2.2.1 u_42.2.2.2.1 (bI u_42.2.2.2.2.1) u_42.2.2.2.2.2.1 u_42.2.2.2.2.2.2 :: oX7 w wb ws wc wr wl ww wf :: aI cI wb 10 wbl :: aI cI ws 3 wse :: oX2 mm mro mfi mle (nI sz) mlo :: aI cI mlo 200 glo :: X) H := pm_P hP 8 [2, 3, 4, 5, 6, 7, 0, 1] rfl
        have hD : va_D A (oX4 re rs rl rf :: aI cI rl 10000 g :: oX0 rf (nI (j % 20)) (nI (j / 20)) u_42.2.2.1 u_42.2.2.2.1 (bI u_42.2.2.2.2.1) u_42.2.2.2.2.2.1 u_42.2.2.2.2.2.2 :: oX7 w wb ws wc wr wl ww wf :: aI cI wb 10 wbl :: aI cI ws 3 wse :: oX2 mm mro mfi mle (nI sz) mlo :: aI cI mlo 200 glo :: X) := pm_D hD 8 [2, 3, 4, 5, 6, 7, 0, 1] rfl rfl rfl
        refine top_i (y := (nI (lgN (SB (blkX wbl)) j))) (laX_j hlo hj hSj) ?_
        refine lv_iadd hx hb dX4_addLeaps_68 ?_
        refine top_i (y := (nI (100 * lgN (SB (blkX wbl)) (20 * ar + ac) + lgN (SB (blkX wbl)) j))) (nI_add _ _) ?_
        refine lv_istore (lv' := [(9, .int (nI (100 * lgN (SB (blkX wbl)) (20 * ar + ac) + lgN (SB (blkX wbl)) j))), (8, .int (nI ku)), (0, .ref re), (1, .ref w), (2, .ref mm), (3, .int (nI ac)), (4, .int (nI ar)), (5, .int xd), (6, .int (laX glo (nI ac) (nI ar))), (7, .int (grB (blkX wbl) (nI ac) (nI ar) xd))]) hx hb dX4_addLeaps_69 hl (by decide) rfl (fun ls hl => ?_)
        refine lv_aload_n hx hb dX4_addLeaps_71 rfl (lv_at hl 2 rfl) ?_
        refine va_get (D := D) (ci := 4) (v := .ref rl) (C := RX4) (T := TX4) (N := 3) hx hb hts hiX4 hown hK hP 0 rfl rfl 1 (by decide) (hts (.fieldLink RX4 9 "LedgeLeaps$Reaches" "leastRunUps" "[I") (List.mem_of_getElem? (i := 4) rfl)) (fun _ h9 => h9) rfl dX4_addLeaps_72 ?_
        refine lv_iload hx hb dX4_addLeaps_75 (lv_at hl 0 rfl) ?_
        refine cSN_i CF hK hN hA hS (cut_of 8 [1, 0, 2, 3, 4, 5, 6, 7] hP hD rfl rfl rfl) (m_at l D cI cZ cW cJ A (oX4 re rs rl rf :: oX0 rf (nI (j % 20)) (nI (j / 20)) u_42.2.2.1 u_42.2.2.2.1 (bI u_42.2.2.2.2.1) u_42.2.2.2.2.2.1 u_42.2.2.2.2.2.2 :: oX7 w wb ws wc wr wl ww wf :: aI cI wb 10 wbl :: aI cI ws 3 wse :: oX2 mm mro mfi mle (nI sz) mlo :: aI cI mlo 200 glo :: X) rl 10000 g (nI (100 * lgN (SB (blkX wbl)) (20 * ar + ac) + lgN (SB (blkX wbl)) j)) (by decide)) ⟨va_cnB 2 hts gX4_addLeaps_X8_at_n59 rfl rfl rfl (hN (RX4, 59, yX8_at) (List.mem_of_getElem? (i := 12) rfl)) (hts (.initialized RX8) (List.mem_of_getElem? (i := 12) rfl)) (by decide +kernel) ⟨Nat.le_of_ble_eq_true rfl, Nat.le_of_ble_eq_true rfl⟩, (hts (.static yX8_at) (List.mem_of_getElem? (i := 14) rfl)), trivial⟩ (As := [.ref rl, .int (nI (100 * lgN (SB (blkX wbl)) (20 * ar + ac) + lgN (SB (blkX wbl)) j))]) (rest := []) rfl hl.1 rfl (Nat.le_of_ble_eq_true rfl) dX4_addLeaps_77 ⟨Nat.le_of_ble_eq_true rfl, Nat.le_of_ble_eq_true rfl⟩ (fun r_77 _ H locs hq hP hD hS => ?_)
        have hq : r_77 = atX 10000 g (nI (100 * lgN (SB (blkX wbl)) (20 * ar + ac) + lgN (SB (blkX wbl)) j)) := hq
        subst hq
        have hP : va_P D vwCl (oX4 re rs rl rf :: aI cI rl 10000 g :: oX0 rf (nI (j % 20)) (nI (j / 20)) u_42.2.2.1 u_42.2.2.2.1 (bI u_42.2.2.2.2.1) u_42.2.2.2.2.2.1 u_42.2.2.2.2.2.2 :: oX7 w wb ws wc wr wl ww wf :: aI cI wb 10 wbl :: aI cI ws 3 wse :: oX2 mm mro mfi mle (nI sz) mlo :: aI cI mlo 200 glo :: X) H := pm_P hP 8 [1, 0, 2, 3, 4, 5, 6, 7] rfl
        have hD : va_D A (oX4 re rs rl rf :: aI cI rl 10000 g :: oX0 rf (nI (j % 20)) (nI (j / 20)) u_42.2.2.1 u_42.2.2.2.1 (bI u_42.2.2.2.2.1) u_42.2.2.2.2.2.1 u_42.2.2.2.2.2.2 :: oX7 w wb ws wc wr wl ww wf :: aI cI wb 10 wbl :: aI cI ws 3 wse :: oX2 mm mro mfi mle (nI sz) mlo :: aI cI mlo 200 glo :: X) := pm_D hD 8 [1, 0, 2, 3, 4, 5, 6, 7] rfl rfl rfl
        refine top_i (y := (g (100 * lgN (SB (blkX wbl)) (20 * ar + ac) + lgN (SB (blkX wbl)) j))) (at_nI (by omega) (by decide)) ?_
        refine lv_istore (lv' := [(10, .int (g (100 * lgN (SB (blkX wbl)) (20 * ar + ac) + lgN (SB (blkX wbl)) j))), (9, .int (nI (100 * lgN (SB (blkX wbl)) (20 * ar + ac) + lgN (SB (blkX wbl)) j))), (8, .int (nI ku)), (0, .ref re), (1, .ref w), (2, .ref mm), (3, .int (nI ac)), (4, .int (nI ar)), (5, .int xd), (6, .int (laX glo (nI ac) (nI ar))), (7, .int (grB (blkX wbl) (nI ac) (nI ar) xd))]) hx hb dX4_addLeaps_80 hl (by decide) rfl (fun ls hl => ?_)
        refine lv_iload hx hb dX4_addLeaps_82 (lv_at hl 0 rfl) ?_
        refine lv_iconst (v := (-1)) hx hb dX4_addLeaps_84 (by decide) ?_
        refine lv_icmp_eq (tgt := 95) hx hb dX4_addLeaps_85 (by decide) (fun c_85 => ?_) (fun c_85 => ?_)
        · refine lv_aload_n hx hb dX4_addLeaps_95 rfl (lv_at hl 3 rfl) ?_
          refine va_get (D := D) (ci := 4) (v := .ref rl) (C := RX4) (T := TX4) (N := 3) hx hb hts hiX4 hown hK hP 0 rfl rfl 1 (by decide) (hts (.fieldLink RX4 9 "LedgeLeaps$Reaches" "leastRunUps" "[I") (List.mem_of_getElem? (i := 4) rfl)) (fun _ h9 => h9) rfl dX4_addLeaps_96 ?_
          refine lv_iload hx hb dX4_addLeaps_99 (lv_at hl 1 rfl) ?_
          refine lv_iload hx hb dX4_addLeaps_101 (lv_at hl 2 rfl) ?_
          refine cSN_v CF hK hN hA hS (cut_of 8 [1, 0, 2, 3, 4, 5, 6, 7] hP hD rfl rfl rfl) (m_store l D cI cZ cW cJ A (oX4 re rs rl rf :: oX0 rf (nI (j % 20)) (nI (j / 20)) u_42.2.2.1 u_42.2.2.2.1 (bI u_42.2.2.2.2.1) u_42.2.2.2.2.2.1 u_42.2.2.2.2.2.2 :: oX7 w wb ws wc wr wl ww wf :: aI cI wb 10 wbl :: aI cI ws 3 wse :: oX2 mm mro mfi mle (nI sz) mlo :: aI cI mlo 200 glo :: X) rl 10000 g (nI (100 * lgN (SB (blkX wbl)) (20 * ar + ac) + lgN (SB (blkX wbl)) j)) (nI ku) (by decide)) ⟨va_cnB 3 hts gX4_addLeaps_X8_store_n63 rfl rfl rfl (hN (RX4, 63, yX8_store) (List.mem_of_getElem? (i := 13) rfl)) (hts (.initialized RX8) (List.mem_of_getElem? (i := 12) rfl)) (by decide +kernel) ⟨Nat.le_of_ble_eq_true rfl, Nat.le_of_ble_eq_true rfl⟩, (hts (.static yX8_store) (List.mem_of_getElem? (i := 63) rfl)), trivial⟩ (As := [.ref rl, .int (nI (100 * lgN (SB (blkX wbl)) (20 * ar + ac) + lgN (SB (blkX wbl)) j)), .int (nI ku)]) (rest := []) rfl hl.1 rfl (Nat.le_of_ble_eq_true rfl) dX4_addLeaps_103 ⟨Nat.le_of_ble_eq_true rfl, Nat.le_of_ble_eq_true rfl⟩ (fun u_103 H locs hq hP hD hS => ?_)
          have hq_103 : u_103 = stX 10000 g (nI (100 * lgN (SB (blkX wbl)) (20 * ar + ac) + lgN (SB (blkX wbl)) j)) (nI ku) := hq
          have hP : va_P D vwCl (oX4 re rs rl rf :: aI cI rl 10000 u_103 :: oX0 rf (nI (j % 20)) (nI (j / 20)) u_42.2.2.1 u_42.2.2.2.1 (bI u_42.2.2.2.2.1) u_42.2.2.2.2.2.1 u_42.2.2.2.2.2.2 :: oX7 w wb ws wc wr wl ww wf :: aI cI wb 10 wbl :: aI cI ws 3 wse :: oX2 mm mro mfi mle (nI sz) mlo :: aI cI mlo 200 glo :: X) H := pm_P hP 8 [1, 0, 2, 3, 4, 5, 6, 7] rfl
          have hD : va_D A (oX4 re rs rl rf :: aI cI rl 10000 u_103 :: oX0 rf (nI (j % 20)) (nI (j / 20)) u_42.2.2.1 u_42.2.2.2.1 (bI u_42.2.2.2.2.1) u_42.2.2.2.2.2.1 u_42.2.2.2.2.2.2 :: oX7 w wb ws wc wr wl ww wf :: aI cI wb 10 wbl :: aI cI ws 3 wse :: oX2 mm mro mfi mle (nI sz) mlo :: aI cI mlo 200 glo :: X) := pm_D hD 8 [1, 0, 2, 3, 4, 5, 6, 7] rfl rfl rfl
          rw [hq_103, st_nI (by omega) (by decide)] at hP hD
          have hP : va_P D vwCl (oX4 re rs rl rf :: aI cI rl 10000 (upd g (100 * lgN (SB (blkX wbl)) (20 * ar + ac) + lgN (SB (blkX wbl)) j) (nI ku)) :: oX0 rf (nI (j % 20)) (nI (j / 20)) u_42.2.2.1 u_42.2.2.2.1 (bI u_42.2.2.2.2.1) u_42.2.2.2.2.2.1 u_42.2.2.2.2.2.2 :: oX7 w wb ws wc wr wl ww wf :: aI cI wb 10 wbl :: aI cI ws 3 wse :: oX2 mm mro mfi mle (nI sz) mlo :: aI cI mlo 200 glo :: X) H := hP
          have hD : va_D A (oX4 re rs rl rf :: aI cI rl 10000 (upd g (100 * lgN (SB (blkX wbl)) (20 * ar + ac) + lgN (SB (blkX wbl)) j) (nI ku)) :: oX0 rf (nI (j % 20)) (nI (j / 20)) u_42.2.2.1 u_42.2.2.2.1 (bI u_42.2.2.2.2.1) u_42.2.2.2.2.2.1 u_42.2.2.2.2.2.2 :: oX7 w wb ws wc wr wl ww wf :: aI cI wb 10 wbl :: aI cI ws 3 wse :: oX2 mm mro mfi mle (nI sz) mlo :: aI cI mlo 200 glo :: X) := hD
          refine lv_iinc (v := (nI (ku + 1))) (lv' := [(8, .int (nI (ku + 1))), (10, .int (g (100 * lgN (SB (blkX wbl)) (20 * ar + ac) + lgN (SB (blkX wbl)) j))), (9, .int (nI (100 * lgN (SB (blkX wbl)) (20 * ar + ac) + lgN (SB (blkX wbl)) j))), (0, .ref re), (1, .ref w), (2, .ref mm), (3, .int (nI ac)), (4, .int (nI ar)), (5, .int xd), (6, .int (laX glo (nI ac) (nI ar))), (7, .int (grB (blkX wbl) (nI ac) (nI ar) xd))]) hx hb dX4_addLeaps_106 hl (k := 2) rfl (nI_1 ku) (by decide) rfl (fun ls hl => ?_)
          refine lv_goto (tgt := 23) hx hb dX4_addLeaps_109 (by decide) ?_
          exact ih_23 (ku + 1) (upd g (100 * lgN (SB (blkX wbl)) (20 * ar + ac) + lgN (SB (blkX wbl)) j) (nI ku)) (nI (j % 20)) (nI (j / 20)) u_42.2.2.1 u_42.2.2.2.1 (bI u_42.2.2.2.2.1) u_42.2.2.2.2.2.1 u_42.2.2.2.2.2.2 (by omega) (by omega) (leaps_step hk3 hEv (Or.inl ⟨rfl, Or.inl c_85⟩) hI) _ _ (hP) (hD) hS _ (lv_sub hl [0, 3, 4, 5, 6, 7, 8, 9, 10] rfl)
        · refine lv_iload hx hb dX4_addLeaps_88 (lv_at hl 2 rfl) ?_
          refine lv_iload hx hb dX4_addLeaps_90 (lv_at hl 0 rfl) ?_
          refine lv_icmp_ge (tgt := 106) hx hb dX4_addLeaps_92 (by decide) (fun c_92 => ?_) (fun c_92 => ?_)
          · refine lv_iinc (v := (nI (ku + 1))) (lv' := [(8, .int (nI (ku + 1))), (10, .int (g (100 * lgN (SB (blkX wbl)) (20 * ar + ac) + lgN (SB (blkX wbl)) j))), (9, .int (nI (100 * lgN (SB (blkX wbl)) (20 * ar + ac) + lgN (SB (blkX wbl)) j))), (0, .ref re), (1, .ref w), (2, .ref mm), (3, .int (nI ac)), (4, .int (nI ar)), (5, .int xd), (6, .int (laX glo (nI ac) (nI ar))), (7, .int (grB (blkX wbl) (nI ac) (nI ar) xd))]) hx hb dX4_addLeaps_106 hl (k := 2) rfl (nI_1 ku) (by decide) rfl (fun ls hl => ?_)
            refine lv_goto (tgt := 23) hx hb dX4_addLeaps_109 (by decide) ?_
            exact ih_23 (ku + 1) g (nI (j % 20)) (nI (j / 20)) u_42.2.2.1 u_42.2.2.2.1 (bI u_42.2.2.2.2.1) u_42.2.2.2.2.2.1 u_42.2.2.2.2.2.2 (by omega) (by omega) (leaps_step hk3 hEv (Or.inr ⟨rfl, c_85, c_92⟩) hI) _ _ (hP) (hD) hS _ (lv_sub hl [0, 3, 4, 5, 6, 7, 8, 9, 10] rfl)
          · refine lv_aload_n hx hb dX4_addLeaps_95 rfl (lv_at hl 3 rfl) ?_
            refine va_get (D := D) (ci := 4) (v := .ref rl) (C := RX4) (T := TX4) (N := 3) hx hb hts hiX4 hown hK hP 0 rfl rfl 1 (by decide) (hts (.fieldLink RX4 9 "LedgeLeaps$Reaches" "leastRunUps" "[I") (List.mem_of_getElem? (i := 4) rfl)) (fun _ h9 => h9) rfl dX4_addLeaps_96 ?_
            refine lv_iload hx hb dX4_addLeaps_99 (lv_at hl 1 rfl) ?_
            refine lv_iload hx hb dX4_addLeaps_101 (lv_at hl 2 rfl) ?_
            refine cSN_v CF hK hN hA hS (cut_of 8 [1, 0, 2, 3, 4, 5, 6, 7] hP hD rfl rfl rfl) (m_store l D cI cZ cW cJ A (oX4 re rs rl rf :: oX0 rf (nI (j % 20)) (nI (j / 20)) u_42.2.2.1 u_42.2.2.2.1 (bI u_42.2.2.2.2.1) u_42.2.2.2.2.2.1 u_42.2.2.2.2.2.2 :: oX7 w wb ws wc wr wl ww wf :: aI cI wb 10 wbl :: aI cI ws 3 wse :: oX2 mm mro mfi mle (nI sz) mlo :: aI cI mlo 200 glo :: X) rl 10000 g (nI (100 * lgN (SB (blkX wbl)) (20 * ar + ac) + lgN (SB (blkX wbl)) j)) (nI ku) (by decide)) ⟨va_cnB 3 hts gX4_addLeaps_X8_store_n63 rfl rfl rfl (hN (RX4, 63, yX8_store) (List.mem_of_getElem? (i := 13) rfl)) (hts (.initialized RX8) (List.mem_of_getElem? (i := 12) rfl)) (by decide +kernel) ⟨Nat.le_of_ble_eq_true rfl, Nat.le_of_ble_eq_true rfl⟩, (hts (.static yX8_store) (List.mem_of_getElem? (i := 63) rfl)), trivial⟩ (As := [.ref rl, .int (nI (100 * lgN (SB (blkX wbl)) (20 * ar + ac) + lgN (SB (blkX wbl)) j)), .int (nI ku)]) (rest := []) rfl hl.1 rfl (Nat.le_of_ble_eq_true rfl) dX4_addLeaps_103 ⟨Nat.le_of_ble_eq_true rfl, Nat.le_of_ble_eq_true rfl⟩ (fun u_103 H locs hq hP hD hS => ?_)
            have hq_103 : u_103 = stX 10000 g (nI (100 * lgN (SB (blkX wbl)) (20 * ar + ac) + lgN (SB (blkX wbl)) j)) (nI ku) := hq
            have hP : va_P D vwCl (oX4 re rs rl rf :: aI cI rl 10000 u_103 :: oX0 rf (nI (j % 20)) (nI (j / 20)) u_42.2.2.1 u_42.2.2.2.1 (bI u_42.2.2.2.2.1) u_42.2.2.2.2.2.1 u_42.2.2.2.2.2.2 :: oX7 w wb ws wc wr wl ww wf :: aI cI wb 10 wbl :: aI cI ws 3 wse :: oX2 mm mro mfi mle (nI sz) mlo :: aI cI mlo 200 glo :: X) H := pm_P hP 8 [1, 0, 2, 3, 4, 5, 6, 7] rfl
            have hD : va_D A (oX4 re rs rl rf :: aI cI rl 10000 u_103 :: oX0 rf (nI (j % 20)) (nI (j / 20)) u_42.2.2.1 u_42.2.2.2.1 (bI u_42.2.2.2.2.1) u_42.2.2.2.2.2.1 u_42.2.2.2.2.2.2 :: oX7 w wb ws wc wr wl ww wf :: aI cI wb 10 wbl :: aI cI ws 3 wse :: oX2 mm mro mfi mle (nI sz) mlo :: aI cI mlo 200 glo :: X) := pm_D hD 8 [1, 0, 2, 3, 4, 5, 6, 7] rfl rfl rfl
            rw [hq_103, st_nI (by omega) (by decide)] at hP hD
            have hP : va_P D vwCl (oX4 re rs rl rf :: aI cI rl 10000 (upd g (100 * lgN (SB (blkX wbl)) (20 * ar + ac) + lgN (SB (blkX wbl)) j) (nI ku)) :: oX0 rf (nI (j % 20)) (nI (j / 20)) u_42.2.2.1 u_42.2.2.2.1 (bI u_42.2.2.2.2.1) u_42.2.2.2.2.2.1 u_42.2.2.2.2.2.2 :: oX7 w wb ws wc wr wl ww wf :: aI cI wb 10 wbl :: aI cI ws 3 wse :: oX2 mm mro mfi mle (nI sz) mlo :: aI cI mlo 200 glo :: X) H := hP
            have hD : va_D A (oX4 re rs rl rf :: aI cI rl 10000 (upd g (100 * lgN (SB (blkX wbl)) (20 * ar + ac) + lgN (SB (blkX wbl)) j) (nI ku)) :: oX0 rf (nI (j % 20)) (nI (j / 20)) u_42.2.2.1 u_42.2.2.2.1 (bI u_42.2.2.2.2.1) u_42.2.2.2.2.2.1 u_42.2.2.2.2.2.2 :: oX7 w wb ws wc wr wl ww wf :: aI cI wb 10 wbl :: aI cI ws 3 wse :: oX2 mm mro mfi mle (nI sz) mlo :: aI cI mlo 200 glo :: X) := hD
            refine lv_iinc (v := (nI (ku + 1))) (lv' := [(8, .int (nI (ku + 1))), (10, .int (g (100 * lgN (SB (blkX wbl)) (20 * ar + ac) + lgN (SB (blkX wbl)) j))), (9, .int (nI (100 * lgN (SB (blkX wbl)) (20 * ar + ac) + lgN (SB (blkX wbl)) j))), (0, .ref re), (1, .ref w), (2, .ref mm), (3, .int (nI ac)), (4, .int (nI ar)), (5, .int xd), (6, .int (laX glo (nI ac) (nI ar))), (7, .int (grB (blkX wbl) (nI ac) (nI ar) xd))]) hx hb dX4_addLeaps_106 hl (k := 2) rfl (nI_1 ku) (by decide) rfl (fun ls hl => ?_)
            refine lv_goto (tgt := 23) hx hb dX4_addLeaps_109 (by decide) ?_
            exact ih_23 (ku + 1) (upd g (100 * lgN (SB (blkX wbl)) (20 * ar + ac) + lgN (SB (blkX wbl)) j) (nI ku)) (nI (j % 20)) (nI (j / 20)) u_42.2.2.1 u_42.2.2.2.1 (bI u_42.2.2.2.2.1) u_42.2.2.2.2.2.1 u_42.2.2.2.2.2.2 (by omega) (by omega) (leaps_step hk3 hEv (Or.inl ⟨rfl, Or.inr ⟨c_85, c_92⟩⟩) hI) _ _ (hP) (hD) hS _ (lv_sub hl [0, 3, 4, 5, 6, 7, 8, 9, 10] rfl)
  exact loop_23 _ 0 glr fc fr ft fo fm fs fi (Nat.lt_succ_self _) (Nat.zero_le _) (fun E hE => hE.cong fun p k => ⟨fun h => h.elim id fun z => absurd z.1 (Nat.not_lt_zero _), fun h => Or.inl h⟩) _ _ hP hD hS _ (lv_sub hl [0, 3, 4, 5, 6, 7, 8, 2, 1] rfl)
set_option maxHeartbeats 4000000 in
set_option maxRecDepth 100000 in
theorem m_find (l : Launch) (D : va_G) (cI cZ cW cJ : ClassId) (A : Nat → Prop) (X : va_W) (re rl rf : Nat) (rs : Int32) (glr : Nat → Int32) (fc fr ft fo fm fs fi : Int32) (w wb ws : Nat) (wc wr wl ww wf : Int32) (wbl wse : Nat → Int32) (mm mro mfi mle mlo : Nat) (glo : Nat → Int32) (sz : Nat) (hlo : ∀ i, i < 200 → glo i = lgF (SB (blkX wbl)) i) (hse : SeR (wse 0) (wse 1) (wse 2)) : Met l yX4_find wsX4_find ({ frames := 4, cells := 0, slots := 0, locals := 101 }) (va_Pc [.ref re, .ref w, .ref mm] (wd D (tyL cI cZ cW cJ) A (oX4 re rs rl rf :: aI cI rl 10000 glr :: oX0 rf fc fr ft fo fm fs fi :: oX7 w wb ws wc wr wl ww wf :: aI cI wb 10 wbl :: aI cI ws 3 wse :: oX2 mm mro mfi mle (nI sz) mlo :: aI cI mlo 200 glo :: X))) (va_Qv (fun (u : (Nat → Int32) × Int32 × Int32 × Int32 × Int32 × Int32 × Int32 × Int32) => InvN (-1) 10000 u.1 (EvA (blkX wbl) (wse 0) (wse 1) (wse 2) 200)) (fun (u : (Nat → Int32) × Int32 × Int32 × Int32 × Int32 × Int32 × Int32 × Int32) t => wq D A (oX4 re (nI sz) rl rf :: aI cI rl 10000 u.1 :: oX0 rf u.2.1 u.2.2.1 u.2.2.2.1 u.2.2.2.2.1 u.2.2.2.2.2.1 u.2.2.2.2.2.2.1 u.2.2.2.2.2.2.2 :: oX7 w wb ws wc wr wl ww wf :: aI cI wb 10 wbl :: aI cI ws 3 wse :: oX2 mm mro mfi mle (nI sz) mlo :: aI cI mlo 200 glo :: X) t) A) 0 0 A := by
  refine Met.ofW (cc := cX4_find) (maxL := 5) (ret := none) (by decide) rfl ?_
  intro p e s m args below meth c s₁ B hml hv
  obtain ⟨rfl, hsz9, hP, hK, hD, hN⟩ := hv
  have hx := B.exec
  have hb := B.bytes
  have hr := B.returns
  have hts := atoms_spec (ws := wsX4_find) B.pre
  have hown : s.vm.findClass RX4 = some m.cls := findClass_of_methodNamed B.named
  have hlocks := B.notSynchronized
  have CF : CallFix p m c cX4_find 5 s _ wsX4_find RX4 := ⟨hx, hb, hml, hown, hts⟩
  have hA : ∀ q : Nat, s.heap.size ≤ q → A q := hsz9
  have hS : va_S A s.heap s.heap [] := va_S.rf
  have hiX2 : ∀ w ∈ u_ws RX2 TX2 5, w ∈ wsX4_find := fun _ h => List.mem_cons_of_mem _ (List.mem_append_left _ (List.mem_append_left _ (List.mem_append_left _ (List.mem_append_right _ (h)))))
  have hiX4 : ∀ w ∈ u_ws RX4 TX4 3, w ∈ wsX4_find := fun _ h => List.mem_cons_of_mem _ (List.mem_append_left _ (List.mem_append_left _ (List.mem_append_right _ (h))))
  have hl := lv_entry ([.ref re, .ref w, .ref mm]) (n := 5) (Nat.le_of_ble_eq_true rfl)
  rw [lg_entry_eq]
  generalize (lg_sl ([.ref re, .ref w, .ref mm]) ++ List.replicate (5 - (lg_sl ([.ref re, .ref w, .ref mm])).length) Slot.unset).toArray = ls at hl ⊢
  have hl : lv_has ls 5 [(0, .ref re), (1, .ref w), (2, .ref mm)] := hl
  show W p l e ({ frames := 4, cells := 0, slots := 0, locals := 101 } : Room) s m (([.ref re, .ref w, .ref mm] : List Value).toArray) below meth c s.heap [] 0 0 (MQ below (va_Qv (fun (u : (Nat → Int32) × Int32 × Int32 × Int32 × Int32 × Int32 × Int32 × Int32) => InvN (-1) 10000 u.1 (EvA (blkX wbl) (wse 0) (wse 1) (wse 2) 200)) (fun (u : (Nat → Int32) × Int32 × Int32 × Int32 × Int32 × Int32 × Int32 × Int32) t => wq D A (oX4 re (nI sz) rl rf :: aI cI rl 10000 u.1 :: oX0 rf u.2.1 u.2.2.1 u.2.2.2.1 u.2.2.2.2.1 u.2.2.2.2.2.1 u.2.2.2.2.2.2.1 u.2.2.2.2.2.2.2 :: oX7 w wb ws wc wr wl ww wf :: aI cI wb 10 wbl :: aI cI ws 3 wse :: oX2 mm mro mfi mle (nI sz) mlo :: aI cI mlo 200 glo :: X) t) A) (([.ref re, .ref w, .ref mm] : List Value).toArray) s 0 0 A) (F0 m 0 ls [])
  refine lv_aload_n hx hb dX4_find_0 rfl (lv_at hl 0 rfl) ?_
  refine lv_aload_n hx hb dX4_find_1 rfl (lv_at hl 2 rfl) ?_
  refine va_get (D := D) (ci := 2) (v := .int (nI sz)) (C := RX2) (T := TX2) (N := 5) hx hb hts hiX2 hown hK hP 6 rfl rfl 3 (by decide) (hts (.fieldLink RX4 22 "LedgeLeaps$LedgeMap" "size" "I") (List.mem_of_getElem? (i := 1) rfl)) (fun _ h9 => h9) rfl dX4_find_2 ?_
  refine va_put (D := D) (ci := 4) (v := .int (nI sz)) (ty := .int) (C := RX4) (T := TX4) (N := 3) hx hb hts hiX4 tyX4 tyX4_ok nmX4 hown hK hP hD hS 0 rfl rfl 0 (by decide) (hts (.fieldLink RX4 28 "LedgeLeaps$Reaches" "size" "I") (List.mem_of_getElem? (i := 2) rfl)) (fun _ h9 => h9) rfl (by decide +kernel) rfl rfl (Nat.le_of_ble_eq_true rfl) dX4_find_5 (fun H locs hP hD hS => ?_)
  have hP : va_P D vwCl (oX4 re (nI sz) rl rf :: aI cI rl 10000 glr :: oX0 rf fc fr ft fo fm fs fi :: oX7 w wb ws wc wr wl ww wf :: aI cI wb 10 wbl :: aI cI ws 3 wse :: oX2 mm mro mfi mle (nI sz) mlo :: aI cI mlo 200 glo :: X) H := hP
  have hD : va_D A (oX4 re (nI sz) rl rf :: aI cI rl 10000 glr :: oX0 rf fc fr ft fo fm fs fi :: oX7 w wb ws wc wr wl ww wf :: aI cI wb 10 wbl :: aI cI ws 3 wse :: oX2 mm mro mfi mle (nI sz) mlo :: aI cI mlo 200 glo :: X) := hD
  refine lv_aload_n hx hb dX4_find_8 rfl (lv_at hl 0 rfl) ?_
  refine va_get (D := D) (ci := 4) (v := .ref rl) (C := RX4) (T := TX4) (N := 3) hx hb hts hiX4 hown hK hP 0 rfl rfl 1 (by decide) (hts (.fieldLink RX4 9 "LedgeLeaps$Reaches" "leastRunUps" "[I") (List.mem_of_getElem? (i := 3) rfl)) (fun _ h9 => h9) rfl dX4_find_9 ?_
  refine lv_iconst (v := (-1)) hx hb dX4_find_12 (by decide) ?_
  refine cS_v CF hK hN hA hS (cut_of 8 [1, 0, 2, 3, 4, 5, 6, 7] hP hD rfl rfl rfl) (m_fill l D cI cZ cW cJ A (oX4 re (nI sz) rl rf :: oX0 rf fc fr ft fo fm fs fi :: oX7 w wb ws wc wr wl ww wf :: aI cI wb 10 wbl :: aI cI ws 3 wse :: oX2 mm mro mfi mle (nI sz) mlo :: aI cI mlo 200 glo :: X) rl 10000 glr (-1) (by decide)) (va_cwS 2 hts gX4_find_J7_fill_53178 rfl rfl rfl (by decide +kernel) ⟨Nat.le_of_ble_eq_true rfl, Nat.le_of_ble_eq_true rfl⟩) (As := [.ref rl, .int (-1)]) (rest := []) rfl hl.1 rfl (Nat.le_of_ble_eq_true rfl) dX4_find_13 ⟨Nat.le_of_ble_eq_true rfl, Nat.le_of_ble_eq_true rfl⟩ (fun _ H locs hq hP hD hS => ?_)
  have hP : va_P D vwCl (oX4 re (nI sz) rl rf :: aI cI rl 10000 (fillX (-1) glr 10000) :: oX0 rf fc fr ft fo fm fs fi :: oX7 w wb ws wc wr wl ww wf :: aI cI wb 10 wbl :: aI cI ws 3 wse :: oX2 mm mro mfi mle (nI sz) mlo :: aI cI mlo 200 glo :: X) H := pm_P hP 8 [1, 0, 2, 3, 4, 5, 6, 7] rfl
  have hD : va_D A (oX4 re (nI sz) rl rf :: aI cI rl 10000 (fillX (-1) glr 10000) :: oX0 rf fc fr ft fo fm fs fi :: oX7 w wb ws wc wr wl ww wf :: aI cI wb 10 wbl :: aI cI ws 3 wse :: oX2 mm mro mfi mle (nI sz) mlo :: aI cI mlo 200 glo :: X) := pm_D hD 8 [1, 0, 2, 3, 4, 5, 6, 7] rfl rfl rfl
  refine lv_iconst (v := 0) hx hb dX4_find_16 (by decide) ?_
  refine lv_istore_n (lv' := [(3, .int 0), (0, .ref re), (1, .ref w), (2, .ref mm)]) hx hb dX4_find_17 rfl hl (by decide) rfl (fun ls hl => ?_)
  have loop_18 : ∀ (nfu : Nat) (r : Nat) (g : Nat → Int32) (va vb vc vd ve vf vg : Int32) (hn_18 : 10 - r < nfu) (hr10 : r ≤ 10) (hI : InvN (-1) 10000 g (EvA (blkX wbl) (wse 0) (wse 1) (wse 2) (20 * r))) (H : Heap) (locs : List Loc) (hP : va_P D vwCl (oX4 re (nI sz) rl rf :: aI cI rl 10000 g :: oX0 rf va vb vc vd ve vf vg :: oX7 w wb ws wc wr wl ww wf :: aI cI wb 10 wbl :: aI cI ws 3 wse :: oX2 mm mro mfi mle (nI sz) mlo :: aI cI mlo 200 glo :: X) H) (hD : va_D A (oX4 re (nI sz) rl rf :: aI cI rl 10000 g :: oX0 rf va vb vc vd ve vf vg :: oX7 w wb ws wc wr wl ww wf :: aI cI wb 10 wbl :: aI cI ws 3 wse :: oX2 mm mro mfi mle (nI sz) mlo :: aI cI mlo 200 glo :: X)) (hS : va_S A s.heap H locs) (ls : Array Slot) (hl : lv_has ls 5 [(3, .int (nI r)), (0, .ref re), (1, .ref w), (2, .ref mm)]), W p l e ({ frames := 4, cells := 0, slots := 0, locals := 101 } : Room) s m (([.ref re, .ref w, .ref mm] : List Value).toArray) below meth c H locs 0 0 (MQ below (va_Qv (fun (u : (Nat → Int32) × Int32 × Int32 × Int32 × Int32 × Int32 × Int32 × Int32) => InvN (-1) 10000 u.1 (EvA (blkX wbl) (wse 0) (wse 1) (wse 2) 200)) (fun (u : (Nat → Int32) × Int32 × Int32 × Int32 × Int32 × Int32 × Int32 × Int32) t => wq D A (oX4 re (nI sz) rl rf :: aI cI rl 10000 u.1 :: oX0 rf u.2.1 u.2.2.1 u.2.2.2.1 u.2.2.2.2.1 u.2.2.2.2.2.1 u.2.2.2.2.2.2.1 u.2.2.2.2.2.2.2 :: oX7 w wb ws wc wr wl ww wf :: aI cI wb 10 wbl :: aI cI ws 3 wse :: oX2 mm mro mfi mle (nI sz) mlo :: aI cI mlo 200 glo :: X) t) A) (([.ref re, .ref w, .ref mm] : List Value).toArray) s 0 0 A) (F0 m 18 ls []) := by
    intro nfu
    induction nfu with
    | zero => intro r g va vb vc vd ve vf vg hn_18; exact absurd hn_18 (Nat.not_lt_zero _)
    | succ nfu ih_18 =>
      intro r g va vb vc vd ve vf vg hn_18 hr10 hI H locs hP hD hS ls hl
      refine lv_iload_n hx hb dX4_find_18 rfl (lv_at hl 0 rfl) ?_
      refine lv_bipush (v := 10) hx hb dX4_find_19 (by decide) ?_
      refine lv_icmp_ge (tgt := 66) hx hb dX4_find_21 (by decide) (fun c_21 => ?_) (fun c_21 => ?_)
      · obtain rfl : r = 10 := by have h := le_of_ge (a := 10) (b := r) (by decide) (by omega) c_21; omega
        exact W.vret hx hb hr (fun t9 ht9 hW9 => ⟨⟨(g, va, vb, vc, vd, ve, vf, vg), rfl, hI, by rw [ht9]; exact hP, hD⟩, hS.F ht9⟩) hS.2.2 dX4_find_66
      · have hr9 : r < 10 := lt_of_nge (a := 10) (b := r) (by decide) (by omega) c_21
        refine lv_iconst (v := 0) hx hb dX4_find_24 (by decide) ?_
        refine lv_istore (lv' := [(4, .int 0), (3, .int (nI r)), (0, .ref re), (1, .ref w), (2, .ref mm)]) hx hb dX4_find_25 hl (by decide) rfl (fun ls hl => ?_)
        have loop_27 : ∀ (nfu : Nat) (k : Nat) (g2 : Nat → Int32) (va2 vb2 vc2 vd2 ve2 vf2 vg2 : Int32) (hn_27 : 20 - k < nfu) (hk : k ≤ 20) (hI2 : InvN (-1) 10000 g2 (EvA (blkX wbl) (wse 0) (wse 1) (wse 2) (20 * r + k))) (H : Heap) (locs : List Loc) (hP : va_P D vwCl (oX4 re (nI sz) rl rf :: aI cI rl 10000 g2 :: oX0 rf va2 vb2 vc2 vd2 ve2 vf2 vg2 :: oX7 w wb ws wc wr wl ww wf :: aI cI wb 10 wbl :: aI cI ws 3 wse :: oX2 mm mro mfi mle (nI sz) mlo :: aI cI mlo 200 glo :: X) H) (hD : va_D A (oX4 re (nI sz) rl rf :: aI cI rl 10000 g2 :: oX0 rf va2 vb2 vc2 vd2 ve2 vf2 vg2 :: oX7 w wb ws wc wr wl ww wf :: aI cI wb 10 wbl :: aI cI ws 3 wse :: oX2 mm mro mfi mle (nI sz) mlo :: aI cI mlo 200 glo :: X)) (hS : va_S A s.heap H locs) (ls : Array Slot) (hl : lv_has ls 5 [(4, .int (nI k)), (3, .int (nI r)), (0, .ref re), (1, .ref w), (2, .ref mm)]), W p l e ({ frames := 4, cells := 0, slots := 0, locals := 101 } : Room) s m (([.ref re, .ref w, .ref mm] : List Value).toArray) below meth c H locs 0 0 (MQ below (va_Qv (fun (u : (Nat → Int32) × Int32 × Int32 × Int32 × Int32 × Int32 × Int32 × Int32) => InvN (-1) 10000 u.1 (EvA (blkX wbl) (wse 0) (wse 1) (wse 2) 200)) (fun (u : (Nat → Int32) × Int32 × Int32 × Int32 × Int32 × Int32 × Int32 × Int32) t => wq D A (oX4 re (nI sz) rl rf :: aI cI rl 10000 u.1 :: oX0 rf u.2.1 u.2.2.1 u.2.2.2.1 u.2.2.2.2.1 u.2.2.2.2.2.1 u.2.2.2.2.2.2.1 u.2.2.2.2.2.2.2 :: oX7 w wb ws wc wr wl ww wf :: aI cI wb 10 wbl :: aI cI ws 3 wse :: oX2 mm mro mfi mle (nI sz) mlo :: aI cI mlo 200 glo :: X) t) A) (([.ref re, .ref w, .ref mm] : List Value).toArray) s 0 0 A) (F0 m 27 ls []) := by
          intro nfu
          induction nfu with
          | zero => intro k g2 va2 vb2 vc2 vd2 ve2 vf2 vg2 hn_27; exact absurd hn_27 (Nat.not_lt_zero _)
          | succ nfu ih_27 =>
            intro k g2 va2 vb2 vc2 vd2 ve2 vf2 vg2 hn_27 hk hI2 H locs hP hD hS ls hl
            refine lv_iload hx hb dX4_find_27 (lv_at hl 0 rfl) ?_
            refine lv_bipush (v := 20) hx hb dX4_find_29 (by decide) ?_
            refine lv_icmp_ge (tgt := 60) hx hb dX4_find_31 (by decide) (fun c_31 => ?_) (fun c_31 => ?_)
            · have hk20 : k = 20 := by have h := le_of_ge (a := 20) (b := k) (by decide) (by omega) c_31; omega
              refine lv_iinc (v := (nI (r + 1))) (lv' := [(3, .int (nI (r + 1))), (4, .int (nI k)), (0, .ref re), (1, .ref w), (2, .ref mm)]) hx hb dX4_find_60 hl (k := 1) rfl (nI_1 r) (by decide) rfl (fun ls hl => ?_)
              refine lv_goto (tgt := 18) hx hb dX4_find_63 (by decide) ?_
              exact ih_18 (r + 1) g2 va2 vb2 vc2 vd2 ve2 vf2 vg2 (by omega) (by omega) (by rw [show 20 * (r + 1) = 20 * r + k by omega]; exact hI2) _ _ (hP) (hD) hS _ (lv_sub hl [0, 2, 3, 4] rfl)
            · have hk2 : k < 20 := lt_of_nge (a := 20) (b := k) (by decide) (by omega) c_31
              refine lv_aload_n hx hb dX4_find_34 rfl (lv_at hl 2 rfl) ?_
              refine lv_aload_n hx hb dX4_find_35 rfl (lv_at hl 3 rfl) ?_
              refine lv_aload_n hx hb dX4_find_36 rfl (lv_at hl 4 rfl) ?_
              refine lv_iload hx hb dX4_find_37 (lv_at hl 0 rfl) ?_
              refine lv_iload_n hx hb dX4_find_39 rfl (lv_at hl 1 rfl) ?_
              refine lv_iconst (v := 1) hx hb dX4_find_40 (by decide) ?_
              refine cV_v CF hK hN hA hS (cut_of 8 [0, 1, 2, 3, 4, 5, 6, 7] hP hD rfl rfl rfl) (m_addLeaps l D cI cZ cW cJ A (X) re rl rf (nI sz) g2 va2 vb2 vc2 vd2 ve2 vf2 vg2 w wb ws wc wr wl ww wf wbl wse mm mro mfi mle mlo glo sz k r 1 hk2 hr9 hlo hse) (cwV 5 hts gX4_find_X4_addLeaps rfl rfl rfl (by decide +kernel) ⟨Nat.le_of_ble_eq_true rfl, Nat.le_of_ble_eq_true rfl⟩) (As := [.ref w, .ref mm, .int (nI k), .int (nI r), .int 1]) (rest := []) (ci := 4) (q0 := 0) rfl rfl rfl hl.1 rfl (Nat.le_of_ble_eq_true rfl) dX4_find_41 ⟨Nat.le_of_ble_eq_true rfl, Nat.le_of_ble_eq_true rfl⟩ (fun u_41 H locs hq hP hD hS => ?_)
              have hq_41 : ∀ E, InvN (-1) 10000 g2 E → InvN (-1) 10000 u_41.1 (fun p9 k9 => E p9 k9 ∨ Ev (blkX wbl) (wse 0) (wse 1) (wse 2) (20 * r + k) 1 k9 p9) := hq
              have hP : va_P D vwCl (oX4 re (nI sz) rl rf :: aI cI rl 10000 u_41.1 :: oX0 rf u_41.2.1 u_41.2.2.1 u_41.2.2.2.1 u_41.2.2.2.2.1 u_41.2.2.2.2.2.1 u_41.2.2.2.2.2.2.1 u_41.2.2.2.2.2.2.2 :: oX7 w wb ws wc wr wl ww wf :: aI cI wb 10 wbl :: aI cI ws 3 wse :: oX2 mm mro mfi mle (nI sz) mlo :: aI cI mlo 200 glo :: X) H := pm_P hP 8 [0, 1, 2, 3, 4, 5, 6, 7] rfl
              have hD : va_D A (oX4 re (nI sz) rl rf :: aI cI rl 10000 u_41.1 :: oX0 rf u_41.2.1 u_41.2.2.1 u_41.2.2.2.1 u_41.2.2.2.2.1 u_41.2.2.2.2.2.1 u_41.2.2.2.2.2.2.1 u_41.2.2.2.2.2.2.2 :: oX7 w wb ws wc wr wl ww wf :: aI cI wb 10 wbl :: aI cI ws 3 wse :: oX2 mm mro mfi mle (nI sz) mlo :: aI cI mlo 200 glo :: X) := pm_D hD 8 [0, 1, 2, 3, 4, 5, 6, 7] rfl rfl rfl
              refine lv_aload_n hx hb dX4_find_44 rfl (lv_at hl 2 rfl) ?_
              refine lv_aload_n hx hb dX4_find_45 rfl (lv_at hl 3 rfl) ?_
              refine lv_aload_n hx hb dX4_find_46 rfl (lv_at hl 4 rfl) ?_
              refine lv_iload hx hb dX4_find_47 (lv_at hl 0 rfl) ?_
              refine lv_iload_n hx hb dX4_find_49 rfl (lv_at hl 1 rfl) ?_
              refine lv_iconst (v := (-1)) hx hb dX4_find_50 (by decide) ?_
              refine cV_v CF hK hN hA hS (cut_of 8 [0, 1, 2, 3, 4, 5, 6, 7] hP hD rfl rfl rfl) (m_addLeaps l D cI cZ cW cJ A (X) re rl rf (nI sz) u_41.1 u_41.2.1 u_41.2.2.1 u_41.2.2.2.1 u_41.2.2.2.2.1 u_41.2.2.2.2.2.1 u_41.2.2.2.2.2.2.1 u_41.2.2.2.2.2.2.2 w wb ws wc wr wl ww wf wbl wse mm mro mfi mle mlo glo sz k r (-1) hk2 hr9 hlo hse) (cwV 5 hts gX4_find_X4_addLeaps rfl rfl rfl (by decide +kernel) ⟨Nat.le_of_ble_eq_true rfl, Nat.le_of_ble_eq_true rfl⟩) (As := [.ref w, .ref mm, .int (nI k), .int (nI r), .int (-1)]) (rest := []) (ci := 4) (q0 := 0) rfl rfl rfl hl.1 rfl (Nat.le_of_ble_eq_true rfl) dX4_find_51 ⟨Nat.le_of_ble_eq_true rfl, Nat.le_of_ble_eq_true rfl⟩ (fun u_51 H locs hq hP hD hS => ?_)
              have hq_51 : ∀ E, InvN (-1) 10000 u_41.1 E → InvN (-1) 10000 u_51.1 (fun p9 k9 => E p9 k9 ∨ Ev (blkX wbl) (wse 0) (wse 1) (wse 2) (20 * r + k) (-1) k9 p9) := hq
              have hP : va_P D vwCl (oX4 re (nI sz) rl rf :: aI cI rl 10000 u_51.1 :: oX0 rf u_51.2.1 u_51.2.2.1 u_51.2.2.2.1 u_51.2.2.2.2.1 u_51.2.2.2.2.2.1 u_51.2.2.2.2.2.2.1 u_51.2.2.2.2.2.2.2 :: oX7 w wb ws wc wr wl ww wf :: aI cI wb 10 wbl :: aI cI ws 3 wse :: oX2 mm mro mfi mle (nI sz) mlo :: aI cI mlo 200 glo :: X) H := pm_P hP 8 [0, 1, 2, 3, 4, 5, 6, 7] rfl
              have hD : va_D A (oX4 re (nI sz) rl rf :: aI cI rl 10000 u_51.1 :: oX0 rf u_51.2.1 u_51.2.2.1 u_51.2.2.2.1 u_51.2.2.2.2.1 u_51.2.2.2.2.2.1 u_51.2.2.2.2.2.2.1 u_51.2.2.2.2.2.2.2 :: oX7 w wb ws wc wr wl ww wf :: aI cI wb 10 wbl :: aI cI ws 3 wse :: oX2 mm mro mfi mle (nI sz) mlo :: aI cI mlo 200 glo :: X) := pm_D hD 8 [0, 1, 2, 3, 4, 5, 6, 7] rfl rfl rfl
              refine lv_iinc (v := (nI (k + 1))) (lv' := [(4, .int (nI (k + 1))), (3, .int (nI r)), (0, .ref re), (1, .ref w), (2, .ref mm)]) hx hb dX4_find_54 hl (k := 0) rfl (nI_1 k) (by decide) rfl (fun ls hl => ?_)
              refine lv_goto (tgt := 27) hx hb dX4_find_57 (by decide) ?_
              exact ih_27 (k + 1) u_51.1 u_51.2.1 u_51.2.2.1 u_51.2.2.2.1 u_51.2.2.2.2.1 u_51.2.2.2.2.2.1 u_51.2.2.2.2.2.2.1 u_51.2.2.2.2.2.2.2 (by omega) (by omega) (find_step hI2 hq_41 hq_51) _ _ (hP) (hD) hS _ (lv_sub hl [0, 1, 2, 3, 4] rfl)
        exact loop_27 _ 0 g va vb vc vd ve vf vg (Nat.lt_succ_self _) (Nat.zero_le _) (hI) _ _ hP hD hS _ (lv_sub hl [0, 1, 2, 3, 4] rfl)
  exact loop_18 _ 0 (fillX (-1) glr 10000) fc fr ft fo fm fs fi (Nat.lt_succ_self _) (Nat.zero_le _) (find_init glr) _ _ hP hD hS _ (lv_sub hl [0, 1, 2, 3] rfl)
set_option maxHeartbeats 4000000 in
set_option maxRecDepth 100000 in
theorem m_leastRunUp (l : Launch) (D : va_G) (cI cZ cW cJ : ClassId) (A : Nat → Prop) (X : va_W) (re rl rf : Nat) (rs : Int32) (glr : Nat → Int32) (aa ab : Nat) (haa : aa < 100) (hab : ab < 100) : Met l yX4_leastRunUp wsX4_leastRunUp ({ frames := 1, cells := 0, slots := 0, locals := 21 }) (va_Pc [.ref re, .int (nI aa), .int (nI ab)] (wd D (tyL cI cZ cW cJ) A (oX4 re rs rl rf :: aI cI rl 10000 glr :: X))) (va_Qi (fun (r : Int32) (u : Unit) => r = glr (100 * aa + ab)) (fun (u : Unit) t => wq D A (oX4 re rs rl rf :: aI cI rl 10000 glr :: X) t) A) 0 0 A := by
  refine Met.ofW (cc := cX4_leastRunUp) (maxL := 3) (ret := (some .int)) (by decide) rfl ?_
  intro p e s m args below meth c s₁ B hml hv
  obtain ⟨rfl, hsz9, hP, hK, hD, hN⟩ := hv
  have hx := B.exec
  have hb := B.bytes
  have hr := B.returns
  have hts := atoms_spec (ws := wsX4_leastRunUp) B.pre
  have hown : s.vm.findClass RX4 = some m.cls := findClass_of_methodNamed B.named
  have hlocks := B.notSynchronized
  have CF : CallFix p m c cX4_leastRunUp 3 s _ wsX4_leastRunUp RX4 := ⟨hx, hb, hml, hown, hts⟩
  have hA : ∀ q : Nat, s.heap.size ≤ q → A q := hsz9
  have hS : va_S A s.heap s.heap [] := va_S.rf
  have hiX4 : ∀ w ∈ u_ws RX4 TX4 3, w ∈ wsX4_leastRunUp := fun _ h => List.mem_cons_of_mem _ (List.mem_append_right _ (h))
  have hl := lv_entry ([.ref re, .int (nI aa), .int (nI ab)]) (n := 3) (Nat.le_of_ble_eq_true rfl)
  rw [lg_entry_eq]
  generalize (lg_sl ([.ref re, .int (nI aa), .int (nI ab)]) ++ List.replicate (3 - (lg_sl ([.ref re, .int (nI aa), .int (nI ab)])).length) Slot.unset).toArray = ls at hl ⊢
  have hl : lv_has ls 3 [(0, .ref re), (1, .int (nI aa)), (2, .int (nI ab))] := hl
  show W p l e ({ frames := 1, cells := 0, slots := 0, locals := 21 } : Room) s m (([.ref re, .int (nI aa), .int (nI ab)] : List Value).toArray) below meth c s.heap [] 0 0 (MQ below (va_Qi (fun (r : Int32) (u : Unit) => r = glr (100 * aa + ab)) (fun (u : Unit) t => wq D A (oX4 re rs rl rf :: aI cI rl 10000 glr :: X) t) A) (([.ref re, .int (nI aa), .int (nI ab)] : List Value).toArray) s 0 0 A) (F0 m 0 ls [])
  refine lv_aload_n hx hb dX4_leastRunUp_0 rfl (lv_at hl 0 rfl) ?_
  refine va_get (D := D) (ci := 4) (v := .ref rl) (C := RX4) (T := TX4) (N := 3) hx hb hts hiX4 hown hK hP 0 rfl rfl 1 (by decide) (hts (.fieldLink RX4 9 "LedgeLeaps$Reaches" "leastRunUps" "[I") (List.mem_of_getElem? (i := 1) rfl)) (fun _ h9 => h9) rfl dX4_leastRunUp_1 ?_
  refine lv_iload_n hx hb dX4_leastRunUp_4 rfl (lv_at hl 1 rfl) ?_
  refine lv_bipush (v := 100) hx hb dX4_leastRunUp_5 (by decide) ?_
  refine lv_imul hx hb dX4_leastRunUp_7 ?_
  refine top_i (y := (nI (100 * aa))) (nI_100 aa) ?_
  refine lv_iload_n hx hb dX4_leastRunUp_8 rfl (lv_at hl 2 rfl) ?_
  refine lv_iadd hx hb dX4_leastRunUp_9 ?_
  refine top_i (y := (nI (100 * aa + ab))) (nI_add _ _) ?_
  refine cSN_i CF hK hN hA hS (cut_of 2 [1, 0] hP hD rfl rfl rfl) (m_at l D cI cZ cW cJ A (oX4 re rs rl rf :: X) rl 10000 glr (nI (100 * aa + ab)) (by decide)) ⟨va_cnB 2 hts gX4_leastRunUp_X8_at_n59 rfl rfl rfl (hN (RX4, 59, yX8_at) (List.mem_of_getElem? (i := 12) rfl)) (hts (.initialized RX8) (List.mem_of_getElem? (i := 3) rfl)) (by decide +kernel) ⟨Nat.le_of_ble_eq_true rfl, Nat.le_of_ble_eq_true rfl⟩, (hts (.static yX8_at) (List.mem_of_getElem? (i := 2) rfl)), trivial⟩ (As := [.ref rl, .int (nI (100 * aa + ab))]) (rest := []) rfl hl.1 rfl (Nat.le_of_ble_eq_true rfl) dX4_leastRunUp_10 ⟨Nat.le_of_ble_eq_true rfl, Nat.le_of_ble_eq_true rfl⟩ (fun r_10 _ H locs hq hP hD hS => ?_)
  have hq : r_10 = atX 10000 glr (nI (100 * aa + ab)) := hq
  subst hq
  have hP : va_P D vwCl (oX4 re rs rl rf :: aI cI rl 10000 glr :: X) H := pm_P hP 2 [1, 0] rfl
  have hD : va_D A (oX4 re rs rl rf :: aI cI rl 10000 glr :: X) := pm_D hD 2 [1, 0] rfl rfl rfl
  refine top_i (y := (glr (100 * aa + ab))) (at_nI (by omega) (by decide)) ?_
  exact W.iret (v := (glr (100 * aa + ab))) hx hb hr (fun t9 ht9 hW9 => ⟨⟨(glr (100 * aa + ab)), (), rfl, rfl, by rw [ht9]; exact hP, hD⟩, hS.F ht9⟩) hS.2.2 dX4_leastRunUp_13
set_option maxHeartbeats 4000000 in
set_option maxRecDepth 100000 in
theorem m_come (l : Launch) (D : va_G) (cI cZ cW cJ : ClassId) (A : Nat → Prop) (X : va_W) (re rl rf : Nat) (rs : Int32) (glr : Nat → Int32) (aa ab : Nat) (xk : Int32) (haa : aa < 100) (hab : ab < 100) : Met l yX4_come wsX4_come ({ frames := 2, cells := 0, slots := 0, locals := 43 }) (va_Pc [.ref re, .int (nI aa), .int (nI ab), .int xk] (wd D (tyL cI cZ cW cJ) A (oX4 re rs rl rf :: aI cI rl 10000 glr :: X))) (va_Qi (fun (r : Int32) (u : Unit) => r = bI (comeF glr aa ab xk)) (fun (u : Unit) t => wq D A (oX4 re rs rl rf :: aI cI rl 10000 glr :: X) t) A) 0 0 A := by
  refine Met.ofW (cc := cX4_come) (maxL := 5) (ret := (some .boolean)) (by decide) rfl ?_
  intro p e s m args below meth c s₁ B hml hv
  obtain ⟨rfl, hsz9, hP, hK, hD, hN⟩ := hv
  have hx := B.exec
  have hb := B.bytes
  have hr := B.returns
  have hts := atoms_spec (ws := wsX4_come) B.pre
  have hown : s.vm.findClass RX4 = some m.cls := findClass_of_methodNamed B.named
  have hlocks := B.notSynchronized
  have CF : CallFix p m c cX4_come 5 s _ wsX4_come RX4 := ⟨hx, hb, hml, hown, hts⟩
  have hA : ∀ q : Nat, s.heap.size ≤ q → A q := hsz9
  have hS : va_S A s.heap s.heap [] := va_S.rf
  have hl := lv_entry ([.ref re, .int (nI aa), .int (nI ab), .int xk]) (n := 5) (Nat.le_of_ble_eq_true rfl)
  rw [lg_entry_eq]
  generalize (lg_sl ([.ref re, .int (nI aa), .int (nI ab), .int xk]) ++ List.replicate (5 - (lg_sl ([.ref re, .int (nI aa), .int (nI ab), .int xk])).length) Slot.unset).toArray = ls at hl ⊢
  have hl : lv_has ls 5 [(0, .ref re), (1, .int (nI aa)), (2, .int (nI ab)), (3, .int xk)] := hl
  show W p l e ({ frames := 2, cells := 0, slots := 0, locals := 43 } : Room) s m (([.ref re, .int (nI aa), .int (nI ab), .int xk] : List Value).toArray) below meth c s.heap [] 0 0 (MQ below (va_Qi (fun (r : Int32) (u : Unit) => r = bI (comeF glr aa ab xk)) (fun (u : Unit) t => wq D A (oX4 re rs rl rf :: aI cI rl 10000 glr :: X) t) A) (([.ref re, .int (nI aa), .int (nI ab), .int xk] : List Value).toArray) s 0 0 A) (F0 m 0 ls [])
  refine lv_aload_n hx hb dX4_come_0 rfl (lv_at hl 0 rfl) ?_
  refine lv_iload_n hx hb dX4_come_1 rfl (lv_at hl 1 rfl) ?_
  refine lv_iload_n hx hb dX4_come_2 rfl (lv_at hl 2 rfl) ?_
  refine cV_i CF hK hN hA hS (cut_of 2 [0, 1] hP hD rfl rfl rfl) (m_leastRunUp l D cI cZ cW cJ A (X) re rl rf rs glr aa ab haa hab) (cwV 2 hts gX4_come_X4_leastRunUp rfl rfl rfl (by decide +kernel) ⟨Nat.le_of_ble_eq_true rfl, Nat.le_of_ble_eq_true rfl⟩) (As := [.int (nI aa), .int (nI ab)]) (rest := []) (ci := 4) (q0 := 0) rfl rfl rfl hl.1 rfl (Nat.le_of_ble_eq_true rfl) dX4_come_3 ⟨Nat.le_of_ble_eq_true rfl, Nat.le_of_ble_eq_true rfl⟩ (fun r_3 _ H locs hq hP hD hS => ?_)
  have hq : r_3 = glr (100 * aa + ab) := hq
  subst hq
  have hP : va_P D vwCl (oX4 re rs rl rf :: aI cI rl 10000 glr :: X) H := pm_P hP 2 [0, 1] rfl
  have hD : va_D A (oX4 re rs rl rf :: aI cI rl 10000 glr :: X) := pm_D hD 2 [0, 1] rfl rfl rfl
  refine lv_istore (lv' := [(4, .int (glr (100 * aa + ab))), (0, .ref re), (1, .int (nI aa)), (2, .int (nI ab)), (3, .int xk)]) hx hb dX4_come_6 hl (by decide) rfl (fun ls hl => ?_)
  refine lv_iload hx hb dX4_come_8 (lv_at hl 0 rfl) ?_
  refine lv_iconst (v := (-1)) hx hb dX4_come_10 (by decide) ?_
  refine lv_icmp_eq (tgt := 24) hx hb dX4_come_11 (by decide) (fun c_11 => ?_) (fun c_11 => ?_)
  · refine lv_iconst (v := 0) hx hb dX4_come_24 (by decide) ?_
    exact W.zret (v := 0) (ty := .boolean) hx hb hr (rfl) (fun t9 ht9 hW9 => ⟨⟨0, (), rfl, by simp only [bI, comeF, c_11, if_true, if_false, reduceCtorEq], by rw [ht9]; exact hP, hD⟩, hS.F ht9⟩) hS.2.2 dX4_come_25
  · refine lv_iload hx hb dX4_come_14 (lv_at hl 0 rfl) ?_
    refine lv_iload_n hx hb dX4_come_16 rfl (lv_at hl 4 rfl) ?_
    refine lv_icmp_gt (tgt := 24) hx hb dX4_come_17 (by decide) (fun c_17 => ?_) (fun c_17 => ?_)
    · refine lv_iconst (v := 0) hx hb dX4_come_24 (by decide) ?_
      exact W.zret (v := 0) (ty := .boolean) hx hb hr (rfl) (fun t9 ht9 hW9 => ⟨⟨0, (), rfl, by simp only [bI, comeF, c_11, c_17, if_true, if_false, reduceCtorEq], by rw [ht9]; exact hP, hD⟩, hS.F ht9⟩) hS.2.2 dX4_come_25
    · refine lv_iconst (v := 1) hx hb dX4_come_20 (by decide) ?_
      refine lv_goto (tgt := 25) hx hb dX4_come_21 (by decide) ?_
      exact W.zret (v := 1) (ty := .boolean) hx hb hr (rfl) (fun t9 ht9 hW9 => ⟨⟨1, (), rfl, by simp only [bI, comeF, c_11, c_17, if_true, if_false, reduceCtorEq], by rw [ht9]; exact hP, hD⟩, hS.F ht9⟩) hS.2.2 dX4_come_25
set_option maxHeartbeats 4000000 in
set_option maxRecDepth 100000 in
theorem m_othersFrom (l : Launch) (D : va_G) (cI cZ cW cJ : ClassId) (A : Nat → Prop) (X : va_W) (re rl rf : Nat) (glr : Nat → Int32) (sz aa : Nat) (xk : Int32) (hsz : sz ≤ 100) (haa : aa < 100) : Met l yX4_othersFrom wsX4_othersFrom ({ frames := 3, cells := 0, slots := 0, locals := 67 }) (va_Pc [.ref re, .int (nI aa), .int xk] (wd D (tyL cI cZ cW cJ) A (oX4 re (nI sz) rl rf :: aI cI rl 10000 glr :: X))) (va_Qi (fun (r : Int32) (u : Unit) => r = nI (cntB (fun to => !decide (to = aa) && comeF glr aa to xk) sz)) (fun (u : Unit) t => wq D A (oX4 re (nI sz) rl rf :: aI cI rl 10000 glr :: X) t) A) 0 0 A := by
  refine Met.ofW (cc := cX4_othersFrom) (maxL := 5) (ret := (some .int)) (by decide) rfl ?_
  intro p e s m args below meth c s₁ B hml hv
  obtain ⟨rfl, hsz9, hP, hK, hD, hN⟩ := hv
  have hx := B.exec
  have hb := B.bytes
  have hr := B.returns
  have hts := atoms_spec (ws := wsX4_othersFrom) B.pre
  have hown : s.vm.findClass RX4 = some m.cls := findClass_of_methodNamed B.named
  have hlocks := B.notSynchronized
  have CF : CallFix p m c cX4_othersFrom 5 s _ wsX4_othersFrom RX4 := ⟨hx, hb, hml, hown, hts⟩
  have hA : ∀ q : Nat, s.heap.size ≤ q → A q := hsz9
  have hS : va_S A s.heap s.heap [] := va_S.rf
  have hiX4 : ∀ w ∈ u_ws RX4 TX4 3, w ∈ wsX4_othersFrom := fun _ h => List.mem_cons_of_mem _ (List.mem_append_right _ (h))
  have hl := lv_entry ([.ref re, .int (nI aa), .int xk]) (n := 5) (Nat.le_of_ble_eq_true rfl)
  rw [lg_entry_eq]
  generalize (lg_sl ([.ref re, .int (nI aa), .int xk]) ++ List.replicate (5 - (lg_sl ([.ref re, .int (nI aa), .int xk])).length) Slot.unset).toArray = ls at hl ⊢
  have hl : lv_has ls 5 [(0, .ref re), (1, .int (nI aa)), (2, .int xk)] := hl
  show W p l e ({ frames := 3, cells := 0, slots := 0, locals := 67 } : Room) s m (([.ref re, .int (nI aa), .int xk] : List Value).toArray) below meth c s.heap [] 0 0 (MQ below (va_Qi (fun (r : Int32) (u : Unit) => r = nI (cntB (fun to => !decide (to = aa) && comeF glr aa to xk) sz)) (fun (u : Unit) t => wq D A (oX4 re (nI sz) rl rf :: aI cI rl 10000 glr :: X) t) A) (([.ref re, .int (nI aa), .int xk] : List Value).toArray) s 0 0 A) (F0 m 0 ls [])
  refine lv_iconst (v := 0) hx hb dX4_othersFrom_0 (by decide) ?_
  refine lv_istore_n (lv' := [(3, .int 0), (0, .ref re), (1, .int (nI aa)), (2, .int xk)]) hx hb dX4_othersFrom_1 rfl hl (by decide) rfl (fun ls hl => ?_)
  refine lv_iconst (v := 0) hx hb dX4_othersFrom_2 (by decide) ?_
  refine lv_istore (lv' := [(4, .int 0), (3, .int 0), (0, .ref re), (1, .int (nI aa)), (2, .int xk)]) hx hb dX4_othersFrom_3 hl (by decide) rfl (fun ls hl => ?_)
  have loop_5 : ∀ (nfu : Nat) (i n : Nat) (hn_5 : sz - i < nfu) (hi : i ≤ sz) (hn : n = cntB (fun to => !decide (to = aa) && comeF glr aa to xk) i) (H : Heap) (locs : List Loc) (hP : va_P D vwCl (oX4 re (nI sz) rl rf :: aI cI rl 10000 glr :: X) H) (hD : va_D A (oX4 re (nI sz) rl rf :: aI cI rl 10000 glr :: X)) (hS : va_S A s.heap H locs) (ls : Array Slot) (hl : lv_has ls 5 [(4, .int (nI i)), (3, .int (nI n)), (0, .ref re), (1, .int (nI aa)), (2, .int xk)]), W p l e ({ frames := 3, cells := 0, slots := 0, locals := 67 } : Room) s m (([.ref re, .int (nI aa), .int xk] : List Value).toArray) below meth c H locs 0 0 (MQ below (va_Qi (fun (r : Int32) (u : Unit) => r = nI (cntB (fun to => !decide (to = aa) && comeF glr aa to xk) sz)) (fun (u : Unit) t => wq D A (oX4 re (nI sz) rl rf :: aI cI rl 10000 glr :: X) t) A) (([.ref re, .int (nI aa), .int xk] : List Value).toArray) s 0 0 A) (F0 m 5 ls []) := by
    intro nfu
    induction nfu with
    | zero => intro i n hn_5; exact absurd hn_5 (Nat.not_lt_zero _)
    | succ nfu ih_5 =>
      intro i n hn_5 hi hn H locs hP hD hS ls hl
      refine lv_iload hx hb dX4_othersFrom_5 (lv_at hl 0 rfl) ?_
      refine lv_aload_n hx hb dX4_othersFrom_7 rfl (lv_at hl 2 rfl) ?_
      refine va_get (D := D) (ci := 4) (v := .int (nI sz)) (C := RX4) (T := TX4) (N := 3) hx hb hts hiX4 hown hK hP 0 rfl rfl 0 (by decide) (hts (.fieldLink RX4 28 "LedgeLeaps$Reaches" "size" "I") (List.mem_of_getElem? (i := 1) rfl)) (fun _ h9 => h9) rfl dX4_othersFrom_8 ?_
      refine lv_icmp_ge (tgt := 40) hx hb dX4_othersFrom_11 (by decide) (fun c_11 => ?_) (fun c_11 => ?_)
      · refine lv_iload_n hx hb dX4_othersFrom_40 rfl (lv_at hl 1 rfl) ?_
        exact W.iret (v := (nI n)) hx hb hr (fun t9 ht9 hW9 => ⟨⟨(nI n), (), rfl, by rw [hn, show i = sz by have h := le_of_ge (a := sz) (b := i) (by omega) (by omega) c_11; omega], by rw [ht9]; exact hP, hD⟩, hS.F ht9⟩) hS.2.2 dX4_othersFrom_41
      · refine lv_iload hx hb dX4_othersFrom_14 (lv_at hl 0 rfl) ?_
        refine lv_iload_n hx hb dX4_othersFrom_16 rfl (lv_at hl 3 rfl) ?_
        refine lv_icmp_eq (tgt := 34) hx hb dX4_othersFrom_17 (by decide) (fun c_17 => ?_) (fun c_17 => ?_)
        · refine lv_iinc (v := (nI (i + 1))) (lv' := [(4, .int (nI (i + 1))), (3, .int (nI n)), (0, .ref re), (1, .int (nI aa)), (2, .int xk)]) hx hb dX4_othersFrom_34 hl (k := 0) rfl (nI_1 i) (by decide) rfl (fun ls hl => ?_)
          refine lv_goto (tgt := 5) hx hb dX4_othersFrom_37 (by decide) ?_
          exact ih_5 (i + 1) n (by have h := lt_of_nge (a := sz) (b := i) (by omega) (by omega) c_11; omega) (lt_of_nge (a := sz) (b := i) (by omega) (by omega) c_11) (by rw [hn, cntB_f]; simp [(nI_eq (by omega) (by omega)).mp c_17]) _ _ (hP) (hD) hS _ (lv_sub hl [0, 1, 2, 3, 4] rfl)
        · refine lv_aload_n hx hb dX4_othersFrom_20 rfl (lv_at hl 2 rfl) ?_
          refine lv_iload_n hx hb dX4_othersFrom_21 rfl (lv_at hl 3 rfl) ?_
          refine lv_iload hx hb dX4_othersFrom_22 (lv_at hl 0 rfl) ?_
          refine lv_iload_n hx hb dX4_othersFrom_24 rfl (lv_at hl 4 rfl) ?_
          refine cV_i CF hK hN hA hS (cut_of 2 [0, 1] hP hD rfl rfl rfl) (m_come l D cI cZ cW cJ A (X) re rl rf (nI sz) glr aa i xk haa (by have h := lt_of_nge (a := sz) (b := i) (by omega) (by omega) c_11; omega)) (cwV 3 hts gX4_othersFrom_X4_come rfl rfl rfl (by decide +kernel) ⟨Nat.le_of_ble_eq_true rfl, Nat.le_of_ble_eq_true rfl⟩) (As := [.int (nI aa), .int (nI i), .int xk]) (rest := []) (ci := 4) (q0 := 0) rfl rfl rfl hl.1 rfl (Nat.le_of_ble_eq_true rfl) dX4_othersFrom_25 ⟨Nat.le_of_ble_eq_true rfl, Nat.le_of_ble_eq_true rfl⟩ (fun r_25 _ H locs hq hP hD hS => ?_)
          have hq : r_25 = bI (comeF glr aa i xk) := hq
          subst hq
          have hP : va_P D vwCl (oX4 re (nI sz) rl rf :: aI cI rl 10000 glr :: X) H := pm_P hP 2 [0, 1] rfl
          have hD : va_D A (oX4 re (nI sz) rl rf :: aI cI rl 10000 glr :: X) := pm_D hD 2 [0, 1] rfl rfl rfl
          refine lv_if_eq (tgt := 34) hx hb dX4_othersFrom_28 (by decide) (fun c_28 => ?_) (fun c_28 => ?_)
          · refine lv_iinc (v := (nI (i + 1))) (lv' := [(4, .int (nI (i + 1))), (3, .int (nI n)), (0, .ref re), (1, .int (nI aa)), (2, .int xk)]) hx hb dX4_othersFrom_34 hl (k := 0) rfl (nI_1 i) (by decide) rfl (fun ls hl => ?_)
            refine lv_goto (tgt := 5) hx hb dX4_othersFrom_37 (by decide) ?_
            exact ih_5 (i + 1) n (by have h := lt_of_nge (a := sz) (b := i) (by omega) (by omega) c_11; omega) (lt_of_nge (a := sz) (b := i) (by omega) (by omega) c_11) (by rw [hn, cntB_f]; simp [bf_c c_28]) _ _ (hP) (hD) hS _ (lv_sub hl [0, 1, 2, 3, 4] rfl)
          · refine lv_iinc (v := (nI (n + 1))) (lv' := [(3, .int (nI (n + 1))), (4, .int (nI i)), (0, .ref re), (1, .int (nI aa)), (2, .int xk)]) hx hb dX4_othersFrom_31 hl (k := 1) rfl (nI_1 n) (by decide) rfl (fun ls hl => ?_)
            refine lv_iinc (v := (nI (i + 1))) (lv' := [(4, .int (nI (i + 1))), (3, .int (nI (n + 1))), (0, .ref re), (1, .int (nI aa)), (2, .int xk)]) hx hb dX4_othersFrom_34 hl (k := 1) rfl (nI_1 i) (by decide) rfl (fun ls hl => ?_)
            refine lv_goto (tgt := 5) hx hb dX4_othersFrom_37 (by decide) ?_
            exact ih_5 (i + 1) (n + 1) (by have h := lt_of_nge (a := sz) (b := i) (by omega) (by omega) c_11; omega) (lt_of_nge (a := sz) (b := i) (by omega) (by omega) c_11) (by rw [hn, cntB_t]; simp [bt_c c_28, show ¬ i = aa from fun q => c_17 (by rw [q])]) _ _ (hP) (hD) hS _ (lv_sub hl [0, 1, 2, 3, 4] rfl)
  exact loop_5 _ 0 0 (Nat.lt_succ_self _) (Nat.zero_le _) (rfl) _ _ hP hD hS _ (lv_sub hl [0, 1, 2, 3, 4] rfl)
set_option maxHeartbeats 4000000 in
set_option maxRecDepth 100000 in
theorem m_othersTo (l : Launch) (D : va_G) (cI cZ cW cJ : ClassId) (A : Nat → Prop) (X : va_W) (re rl rf : Nat) (glr : Nat → Int32) (sz aa : Nat) (hsz : sz ≤ 100) (haa : aa < 100) : Met l yX4_othersTo wsX4_othersTo ({ frames := 3, cells := 0, slots := 0, locals := 67 }) (va_Pc [.ref re, .int (nI aa)] (wd D (tyL cI cZ cW cJ) A (oX4 re (nI sz) rl rf :: aI cI rl 10000 glr :: X))) (va_Qi (fun (r : Int32) (u : Unit) => r = nI (cntB (fun fr => !decide (fr = aa) && comeF glr fr aa 3) sz)) (fun (u : Unit) t => wq D A (oX4 re (nI sz) rl rf :: aI cI rl 10000 glr :: X) t) A) 0 0 A := by
  refine Met.ofW (cc := cX4_othersTo) (maxL := 4) (ret := (some .int)) (by decide) rfl ?_
  intro p e s m args below meth c s₁ B hml hv
  obtain ⟨rfl, hsz9, hP, hK, hD, hN⟩ := hv
  have hx := B.exec
  have hb := B.bytes
  have hr := B.returns
  have hts := atoms_spec (ws := wsX4_othersTo) B.pre
  have hown : s.vm.findClass RX4 = some m.cls := findClass_of_methodNamed B.named
  have hlocks := B.notSynchronized
  have CF : CallFix p m c cX4_othersTo 4 s _ wsX4_othersTo RX4 := ⟨hx, hb, hml, hown, hts⟩
  have hA : ∀ q : Nat, s.heap.size ≤ q → A q := hsz9
  have hS : va_S A s.heap s.heap [] := va_S.rf
  have hiX4 : ∀ w ∈ u_ws RX4 TX4 3, w ∈ wsX4_othersTo := fun _ h => List.mem_cons_of_mem _ (List.mem_append_right _ (h))
  have hl := lv_entry ([.ref re, .int (nI aa)]) (n := 4) (Nat.le_of_ble_eq_true rfl)
  rw [lg_entry_eq]
  generalize (lg_sl ([.ref re, .int (nI aa)]) ++ List.replicate (4 - (lg_sl ([.ref re, .int (nI aa)])).length) Slot.unset).toArray = ls at hl ⊢
  have hl : lv_has ls 4 [(0, .ref re), (1, .int (nI aa))] := hl
  show W p l e ({ frames := 3, cells := 0, slots := 0, locals := 67 } : Room) s m (([.ref re, .int (nI aa)] : List Value).toArray) below meth c s.heap [] 0 0 (MQ below (va_Qi (fun (r : Int32) (u : Unit) => r = nI (cntB (fun fr => !decide (fr = aa) && comeF glr fr aa 3) sz)) (fun (u : Unit) t => wq D A (oX4 re (nI sz) rl rf :: aI cI rl 10000 glr :: X) t) A) (([.ref re, .int (nI aa)] : List Value).toArray) s 0 0 A) (F0 m 0 ls [])
  refine lv_iconst (v := 0) hx hb dX4_othersTo_0 (by decide) ?_
  refine lv_istore_n (lv' := [(2, .int 0), (0, .ref re), (1, .int (nI aa))]) hx hb dX4_othersTo_1 rfl hl (by decide) rfl (fun ls hl => ?_)
  refine lv_iconst (v := 0) hx hb dX4_othersTo_2 (by decide) ?_
  refine lv_istore_n (lv' := [(3, .int 0), (2, .int 0), (0, .ref re), (1, .int (nI aa))]) hx hb dX4_othersTo_3 rfl hl (by decide) rfl (fun ls hl => ?_)
  have loop_4 : ∀ (nfu : Nat) (i n : Nat) (hn_4 : sz - i < nfu) (hi : i ≤ sz) (hn : n = cntB (fun fr => !decide (fr = aa) && comeF glr fr aa 3) i) (H : Heap) (locs : List Loc) (hP : va_P D vwCl (oX4 re (nI sz) rl rf :: aI cI rl 10000 glr :: X) H) (hD : va_D A (oX4 re (nI sz) rl rf :: aI cI rl 10000 glr :: X)) (hS : va_S A s.heap H locs) (ls : Array Slot) (hl : lv_has ls 4 [(3, .int (nI i)), (2, .int (nI n)), (0, .ref re), (1, .int (nI aa))]), W p l e ({ frames := 3, cells := 0, slots := 0, locals := 67 } : Room) s m (([.ref re, .int (nI aa)] : List Value).toArray) below meth c H locs 0 0 (MQ below (va_Qi (fun (r : Int32) (u : Unit) => r = nI (cntB (fun fr => !decide (fr = aa) && comeF glr fr aa 3) sz)) (fun (u : Unit) t => wq D A (oX4 re (nI sz) rl rf :: aI cI rl 10000 glr :: X) t) A) (([.ref re, .int (nI aa)] : List Value).toArray) s 0 0 A) (F0 m 4 ls []) := by
    intro nfu
    induction nfu with
    | zero => intro i n hn_4; exact absurd hn_4 (Nat.not_lt_zero _)
    | succ nfu ih_4 =>
      intro i n hn_4 hi hn H locs hP hD hS ls hl
      refine lv_iload_n hx hb dX4_othersTo_4 rfl (lv_at hl 0 rfl) ?_
      refine lv_aload_n hx hb dX4_othersTo_5 rfl (lv_at hl 2 rfl) ?_
      refine va_get (D := D) (ci := 4) (v := .int (nI sz)) (C := RX4) (T := TX4) (N := 3) hx hb hts hiX4 hown hK hP 0 rfl rfl 0 (by decide) (hts (.fieldLink RX4 28 "LedgeLeaps$Reaches" "size" "I") (List.mem_of_getElem? (i := 1) rfl)) (fun _ h9 => h9) rfl dX4_othersTo_6 ?_
      refine lv_icmp_ge (tgt := 36) hx hb dX4_othersTo_9 (by decide) (fun c_9 => ?_) (fun c_9 => ?_)
      · refine lv_iload_n hx hb dX4_othersTo_36 rfl (lv_at hl 1 rfl) ?_
        exact W.iret (v := (nI n)) hx hb hr (fun t9 ht9 hW9 => ⟨⟨(nI n), (), rfl, by rw [hn, show i = sz by have h := le_of_ge (a := sz) (b := i) (by omega) (by omega) c_9; omega], by rw [ht9]; exact hP, hD⟩, hS.F ht9⟩) hS.2.2 dX4_othersTo_37
      · refine lv_iload_n hx hb dX4_othersTo_12 rfl (lv_at hl 0 rfl) ?_
        refine lv_iload_n hx hb dX4_othersTo_13 rfl (lv_at hl 3 rfl) ?_
        refine lv_icmp_eq (tgt := 30) hx hb dX4_othersTo_14 (by decide) (fun c_14 => ?_) (fun c_14 => ?_)
        · refine lv_iinc (v := (nI (i + 1))) (lv' := [(3, .int (nI (i + 1))), (2, .int (nI n)), (0, .ref re), (1, .int (nI aa))]) hx hb dX4_othersTo_30 hl (k := 0) rfl (nI_1 i) (by decide) rfl (fun ls hl => ?_)
          refine lv_goto (tgt := 4) hx hb dX4_othersTo_33 (by decide) ?_
          exact ih_4 (i + 1) n (by have h := lt_of_nge (a := sz) (b := i) (by omega) (by omega) c_9; omega) (lt_of_nge (a := sz) (b := i) (by omega) (by omega) c_9) (by rw [hn, cntB_f]; simp [(nI_eq (by omega) (by omega)).mp c_14]) _ _ (hP) (hD) hS _ (lv_sub hl [0, 1, 2, 3] rfl)
        · refine lv_aload_n hx hb dX4_othersTo_17 rfl (lv_at hl 2 rfl) ?_
          refine lv_iload_n hx hb dX4_othersTo_18 rfl (lv_at hl 0 rfl) ?_
          refine lv_iload_n hx hb dX4_othersTo_19 rfl (lv_at hl 3 rfl) ?_
          refine lv_iconst (v := 3) hx hb dX4_othersTo_20 (by decide) ?_
          refine cV_i CF hK hN hA hS (cut_of 2 [0, 1] hP hD rfl rfl rfl) (m_come l D cI cZ cW cJ A (X) re rl rf (nI sz) glr i aa 3 (by have h := lt_of_nge (a := sz) (b := i) (by omega) (by omega) c_9; omega) haa) (cwV 3 hts gX4_othersTo_X4_come rfl rfl rfl (by decide +kernel) ⟨Nat.le_of_ble_eq_true rfl, Nat.le_of_ble_eq_true rfl⟩) (As := [.int (nI i), .int (nI aa), .int 3]) (rest := []) (ci := 4) (q0 := 0) rfl rfl rfl hl.1 rfl (Nat.le_of_ble_eq_true rfl) dX4_othersTo_21 ⟨Nat.le_of_ble_eq_true rfl, Nat.le_of_ble_eq_true rfl⟩ (fun r_21 _ H locs hq hP hD hS => ?_)
          have hq : r_21 = bI (comeF glr i aa 3) := hq
          subst hq
          have hP : va_P D vwCl (oX4 re (nI sz) rl rf :: aI cI rl 10000 glr :: X) H := pm_P hP 2 [0, 1] rfl
          have hD : va_D A (oX4 re (nI sz) rl rf :: aI cI rl 10000 glr :: X) := pm_D hD 2 [0, 1] rfl rfl rfl
          refine lv_if_eq (tgt := 30) hx hb dX4_othersTo_24 (by decide) (fun c_24 => ?_) (fun c_24 => ?_)
          · refine lv_iinc (v := (nI (i + 1))) (lv' := [(3, .int (nI (i + 1))), (2, .int (nI n)), (0, .ref re), (1, .int (nI aa))]) hx hb dX4_othersTo_30 hl (k := 0) rfl (nI_1 i) (by decide) rfl (fun ls hl => ?_)
            refine lv_goto (tgt := 4) hx hb dX4_othersTo_33 (by decide) ?_
            exact ih_4 (i + 1) n (by have h := lt_of_nge (a := sz) (b := i) (by omega) (by omega) c_9; omega) (lt_of_nge (a := sz) (b := i) (by omega) (by omega) c_9) (by rw [hn, cntB_f]; simp [bf_c c_24]) _ _ (hP) (hD) hS _ (lv_sub hl [0, 1, 2, 3] rfl)
          · refine lv_iinc (v := (nI (n + 1))) (lv' := [(2, .int (nI (n + 1))), (3, .int (nI i)), (0, .ref re), (1, .int (nI aa))]) hx hb dX4_othersTo_27 hl (k := 1) rfl (nI_1 n) (by decide) rfl (fun ls hl => ?_)
            refine lv_iinc (v := (nI (i + 1))) (lv' := [(3, .int (nI (i + 1))), (2, .int (nI (n + 1))), (0, .ref re), (1, .int (nI aa))]) hx hb dX4_othersTo_30 hl (k := 1) rfl (nI_1 i) (by decide) rfl (fun ls hl => ?_)
            refine lv_goto (tgt := 4) hx hb dX4_othersTo_33 (by decide) ?_
            exact ih_4 (i + 1) (n + 1) (by have h := lt_of_nge (a := sz) (b := i) (by omega) (by omega) c_9; omega) (lt_of_nge (a := sz) (b := i) (by omega) (by omega) c_9) (by rw [hn, cntB_t]; simp [bt_c c_24, show ¬ i = aa from fun q => c_14 (by rw [q])]) _ _ (hP) (hD) hS _ (lv_sub hl [0, 1, 2, 3] rfl)
  exact loop_4 _ 0 0 (Nat.lt_succ_self _) (Nat.zero_le _) (rfl) _ _ hP hD hS _ (lv_sub hl [0, 1, 2, 3] rfl)
