set_option maxHeartbeats 4000000 in
set_option maxRecDepth 100000 in
theorem n_tries (l : Launch) (D : va_G) (cI cZ cW cJ : ClassId) (A : Nat → Prop) (X : va_W) (mo zs zv zl zk zt zg zi zw zo ze zd : Nat) (vn vl vh vg vc vr vt vo vp va vb vd vq : Int32) (vm : Bool) (vz : Int64) (gs : Nat → Int32) (S : KS) (ac ar ak : Nat) (xd : Int32) (hS0 : AbsM S gs) (hWf : Wf S) (hac : ac < 20) (har : ar < 10) (hak : ak ≤ 3) : Met l yX9_tries wsX9_tries ({ frames := 5, cells := 0, slots := 0, locals := 111 }) (va_Pc [.ref mo, .int (nI ac), .int (nI ar), .int xd, .int (nI ak)] (wd D (tyL cI cZ cW cJ) A (oX9 mo zs zv vn zl zk zt vl vh zg zi zw vg zo ze vc vr vt vo (bI vm) vp va vb vd vq zd vz :: aI cI zs 28 gs :: X))) (va_Qi (fun (r : Int32) (u : Int32 × Int32 × Int32 × Int32 × Bool) => r = bI (!decide (grB (Bk S.1) (nI ac) (nI ar) xd < nI ak)) ∧ (¬ grB (Bk S.1) (nI ac) (nI ar) xd < nI ak → u.1 = (flyR (Bk S.1) S.2.1.1 S.2.1.2.1 S.2.1.2.2 xd ac ar ak).1 ∧ u.2.1 = (flyR (Bk S.1) S.2.1.1 S.2.1.2.1 S.2.1.2.2 xd ac ar ak).2.1 ∧ u.2.2.1 = (flyR (Bk S.1) S.2.1.1 S.2.1.2.1 S.2.1.2.2 xd ac ar ak).2.2.1 ∧ u.2.2.2.1 = (flyR (Bk S.1) S.2.1.1 S.2.1.2.1 S.2.1.2.2 xd ac ar ak).2.2.2.1 ∧ u.2.2.2.2 = (flyR (Bk S.1) S.2.1.1 S.2.1.2.1 S.2.1.2.2 xd ac ar ak).2.2.2.2.1)) (fun (u : Int32 × Int32 × Int32 × Int32 × Bool) t => wq D A (oX9 mo zs zv vn zl zk zt vl vh zg zi zw vg zo ze u.1 u.2.1 u.2.2.1 u.2.2.2.1 (bI u.2.2.2.2) vp va vb vd vq zd vz :: aI cI zs 28 gs :: X) t) A) 0 0 A := by
  refine Met.ofW (cc := cX9_tries) (maxL := 10) (ret := (some .boolean)) (by decide) rfl ?_
  intro p e s m args below meth c s₁ B hml hv
  obtain ⟨rfl, hsz9, hP, hK, hD, hN⟩ := hv
  have hx := B.exec
  have hb := B.bytes
  have hr := B.returns
  have hts := atoms_spec (ws := wsX9_tries) B.pre
  have hown : s.vm.findClass RX9 = some m.cls := findClass_of_methodNamed B.named
  have hlocks := B.notSynchronized
  have CF : CallFix p m c cX9_tries 10 s _ wsX9_tries RX9 := ⟨hx, hb, hml, hown, hts⟩
  have hA : ∀ q : Nat, s.heap.size ≤ q → A q := hsz9
  have hS : va_S A s.heap s.heap [] := va_S.rf
  have hiX9 : ∀ w ∈ u_ws RX9 TX9 26, w ∈ wsX9_tries := fun _ h => List.mem_cons_of_mem _ (List.mem_append_right _ (h))
  have hl := lv_entry ([.ref mo, .int (nI ac), .int (nI ar), .int xd, .int (nI ak)]) (n := 10) (Nat.le_of_ble_eq_true rfl)
  rw [lg_entry_eq]
  generalize (lg_sl ([.ref mo, .int (nI ac), .int (nI ar), .int xd, .int (nI ak)]) ++ List.replicate (10 - (lg_sl ([.ref mo, .int (nI ac), .int (nI ar), .int xd, .int (nI ak)])).length) Slot.unset).toArray = ls at hl ⊢
  have hl : lv_has ls 10 [(0, .ref mo), (1, .int (nI ac)), (2, .int (nI ar)), (3, .int xd), (4, .int (nI ak))] := hl
  show W p l e ({ frames := 5, cells := 0, slots := 0, locals := 111 } : Room) s m (([.ref mo, .int (nI ac), .int (nI ar), .int xd, .int (nI ak)] : List Value).toArray) below meth c s.heap [] 0 0 (MQ below (va_Qi (fun (r : Int32) (u : Int32 × Int32 × Int32 × Int32 × Bool) => r = bI (!decide (grB (Bk S.1) (nI ac) (nI ar) xd < nI ak)) ∧ (¬ grB (Bk S.1) (nI ac) (nI ar) xd < nI ak → u.1 = (flyR (Bk S.1) S.2.1.1 S.2.1.2.1 S.2.1.2.2 xd ac ar ak).1 ∧ u.2.1 = (flyR (Bk S.1) S.2.1.1 S.2.1.2.1 S.2.1.2.2 xd ac ar ak).2.1 ∧ u.2.2.1 = (flyR (Bk S.1) S.2.1.1 S.2.1.2.1 S.2.1.2.2 xd ac ar ak).2.2.1 ∧ u.2.2.2.1 = (flyR (Bk S.1) S.2.1.1 S.2.1.2.1 S.2.1.2.2 xd ac ar ak).2.2.2.1 ∧ u.2.2.2.2 = (flyR (Bk S.1) S.2.1.1 S.2.1.2.1 S.2.1.2.2 xd ac ar ak).2.2.2.2.1)) (fun (u : Int32 × Int32 × Int32 × Int32 × Bool) t => wq D A (oX9 mo zs zv vn zl zk zt vl vh zg zi zw vg zo ze u.1 u.2.1 u.2.2.1 u.2.2.2.1 (bI u.2.2.2.2) vp va vb vd vq zd vz :: aI cI zs 28 gs :: X) t) A) (([.ref mo, .int (nI ac), .int (nI ar), .int xd, .int (nI ak)] : List Value).toArray) s 0 0 A) (F0 m 0 ls [])
  refine lv_iload hx hb dX9_tries_0 (lv_at hl 4 rfl) ?_
  refine lv_aload_n hx hb dX9_tries_2 rfl (lv_at hl 0 rfl) ?_
  refine lv_iload_n hx hb dX9_tries_3 rfl (lv_at hl 1 rfl) ?_
  refine lv_iload_n hx hb dX9_tries_4 rfl (lv_at hl 2 rfl) ?_
  refine lv_iload_n hx hb dX9_tries_5 rfl (lv_at hl 3 rfl) ?_
  refine cV_i CF hK hN hA hS (cut_of 2 [0, 1] hP hD rfl rfl rfl) (n_greatestRun l D cI cZ cW cJ A (X) mo zs zv zl zk zt zg zi zw zo ze zd vn vl vh vg vc vr vt vo vp va vb vd vq vm vz gs S (nI ac) (nI ar) xd hS0) (cwV 3 hts gX9_tries_X9_greatestRun rfl rfl rfl (by decide +kernel) ⟨Nat.le_of_ble_eq_true rfl, Nat.le_of_ble_eq_true rfl⟩) (As := [.int (nI ac), .int (nI ar), .int xd]) (rest := [.int (nI ak)]) (ci := 9) (q0 := 0) rfl rfl rfl hl.1 rfl (Nat.le_of_ble_eq_true rfl) dX9_tries_6 ⟨Nat.le_of_ble_eq_true rfl, Nat.le_of_ble_eq_true rfl⟩ (fun r_6 _ H locs hq hP hD hS => ?_)
  have hq : r_6 = grB (Bk S.1) (nI ac) (nI ar) xd := hq
  subst hq
  have hP : va_P D vwCl (oX9 mo zs zv vn zl zk zt vl vh zg zi zw vg zo ze vc vr vt vo (bI vm) vp va vb vd vq zd vz :: aI cI zs 28 gs :: X) H := pm_P hP 2 [0, 1] rfl
  have hD : va_D A (oX9 mo zs zv vn zl zk zt vl vh zg zi zw vg zo ze vc vr vt vo (bI vm) vp va vb vd vq zd vz :: aI cI zs 28 gs :: X) := pm_D hD 2 [0, 1] rfl rfl rfl
  refine lv_icmp_le (tgt := 14) hx hb dX9_tries_9 (by decide) (fun c_9 => ?_) (fun c_9 => ?_)
  · obtain ⟨hst, -⟩ := gr_le (u := ak) (by omega) c_9
    obtain ⟨na, nf, ns, hna, hnf, hns, e1, e2, e3⟩ := hWf.1
    have hBO := Bk_OutB S.1
    have hfr : Bk S.1 (nI ac) (nI ar) = false := by unfold stB at hst; rw [Bool.and_eq_true] at hst; exact f_of_not hst.1
    refine lv_aload_n hx hb dX9_tries_14 rfl (lv_at hl 0 rfl) ?_
    refine lv_iload_n hx hb dX9_tries_15 rfl (lv_at hl 1 rfl) ?_
    refine va_put (D := D) (ci := 9) (v := .int (nI ac)) (ty := .int) (C := RX9) (T := TX9) (N := 26) hx hb hts hiX9 tyX9 tyX9_ok nmX9 hown hK hP hD hS 0 rfl rfl 14 (by decide) (hts (.fieldLink RX9 76 "LedgeLeapsModel" "column" "I") (List.mem_of_getElem? (i := 1) rfl)) (fun _ h9 => h9) rfl (by decide +kernel) rfl rfl (Nat.le_of_ble_eq_true rfl) dX9_tries_16 (fun H locs hP hD hS => ?_)
    have hP : va_P D vwCl (oX9 mo zs zv vn zl zk zt vl vh zg zi zw vg zo ze (nI ac) vr vt vo (bI vm) vp va vb vd vq zd vz :: aI cI zs 28 gs :: X) H := hP
    have hD : va_D A (oX9 mo zs zv vn zl zk zt vl vh zg zi zw vg zo ze (nI ac) vr vt vo (bI vm) vp va vb vd vq zd vz :: aI cI zs 28 gs :: X) := hD
    refine lv_aload_n hx hb dX9_tries_19 rfl (lv_at hl 0 rfl) ?_
    refine lv_iload_n hx hb dX9_tries_20 rfl (lv_at hl 2 rfl) ?_
    refine va_put (D := D) (ci := 9) (v := .int (nI ar)) (ty := .int) (C := RX9) (T := TX9) (N := 26) hx hb hts hiX9 tyX9 tyX9_ok nmX9 hown hK hP hD hS 0 rfl rfl 15 (by decide) (hts (.fieldLink RX9 79 "LedgeLeapsModel" "row" "I") (List.mem_of_getElem? (i := 2) rfl)) (fun _ h9 => h9) rfl (by decide +kernel) rfl rfl (Nat.le_of_ble_eq_true rfl) dX9_tries_21 (fun H locs hP hD hS => ?_)
    have hP : va_P D vwCl (oX9 mo zs zv vn zl zk zt vl vh zg zi zw vg zo ze (nI ac) (nI ar) vt vo (bI vm) vp va vb vd vq zd vz :: aI cI zs 28 gs :: X) H := hP
    have hD : va_D A (oX9 mo zs zv vn zl zk zt vl vh zg zi zw vg zo ze (nI ac) (nI ar) vt vo (bI vm) vp va vb vd vq zd vz :: aI cI zs 28 gs :: X) := hD
    refine lv_aload_n hx hb dX9_tries_24 rfl (lv_at hl 0 rfl) ?_
    refine lv_iload_n hx hb dX9_tries_25 rfl (lv_at hl 2 rfl) ?_
    refine va_put (D := D) (ci := 9) (v := .int (nI ar)) (ty := .int) (C := RX9) (T := TX9) (N := 26) hx hb hts hiX9 tyX9 tyX9_ok nmX9 hown hK hP hD hS 0 rfl rfl 17 (by decide) (hts (.fieldLink RX9 82 "LedgeLeapsModel" "top" "I") (List.mem_of_getElem? (i := 3) rfl)) (fun _ h9 => h9) rfl (by decide +kernel) rfl rfl (Nat.le_of_ble_eq_true rfl) dX9_tries_26 (fun H locs hP hD hS => ?_)
    have hP : va_P D vwCl (oX9 mo zs zv vn zl zk zt vl vh zg zi zw vg zo ze (nI ac) (nI ar) vt (nI ar) (bI vm) vp va vb vd vq zd vz :: aI cI zs 28 gs :: X) H := hP
    have hD : va_D A (oX9 mo zs zv vn zl zk zt vl vh zg zi zw vg zo ze (nI ac) (nI ar) vt (nI ar) (bI vm) vp va vb vd vq zd vz :: aI cI zs 28 gs :: X) := hD
    refine lv_aload_n hx hb dX9_tries_29 rfl (lv_at hl 0 rfl) ?_
    refine lv_iconst (v := 0) hx hb dX9_tries_30 (by decide) ?_
    refine va_put (D := D) (ci := 9) (v := .int 0) (ty := .int) (C := RX9) (T := TX9) (N := 26) hx hb hts hiX9 tyX9 tyX9_ok nmX9 hown hK hP hD hS 0 rfl rfl 16 (by decide) (hts (.fieldLink RX9 89 "LedgeLeapsModel" "ticks" "I") (List.mem_of_getElem? (i := 4) rfl)) (fun _ h9 => h9) rfl (by decide +kernel) rfl rfl (Nat.le_of_ble_eq_true rfl) dX9_tries_31 (fun H locs hP hD hS => ?_)
    have hP : va_P D vwCl (oX9 mo zs zv vn zl zk zt vl vh zg zi zw vg zo ze (nI ac) (nI ar) 0 (nI ar) (bI vm) vp va vb vd vq zd vz :: aI cI zs 28 gs :: X) H := hP
    have hD : va_D A (oX9 mo zs zv vn zl zk zt vl vh zg zi zw vg zo ze (nI ac) (nI ar) 0 (nI ar) (bI vm) vp va vb vd vq zd vz :: aI cI zs 28 gs :: X) := hD
    refine lv_aload_n hx hb dX9_tries_34 rfl (lv_at hl 0 rfl) ?_
    refine lv_iconst (v := 0) hx hb dX9_tries_35 (by decide) ?_
    refine va_put (D := D) (ci := 9) (v := .int 0) (ty := .boolean) (C := RX9) (T := TX9) (N := 26) hx hb hts hiX9 tyX9 tyX9_ok nmX9 hown hK hP hD hS 0 rfl rfl 18 (by decide) (hts (.fieldLink RX9 92 "LedgeLeapsModel" "isMet" "Z") (List.mem_of_getElem? (i := 5) rfl)) (fun _ h9 => h9) rfl (by decide +kernel) rfl rfl (Nat.le_of_ble_eq_true rfl) dX9_tries_36 (fun H locs hP hD hS => ?_)
    have hP : va_P D vwCl (oX9 mo zs zv vn zl zk zt vl vh zg zi zw vg zo ze (nI ac) (nI ar) 0 (nI ar) 0 vp va vb vd vq zd vz :: aI cI zs 28 gs :: X) H := hP
    have hD : va_D A (oX9 mo zs zv vn zl zk zt vl vh zg zi zw vg zo ze (nI ac) (nI ar) 0 (nI ar) 0 vp va vb vd vq zd vz :: aI cI zs 28 gs :: X) := hD
    refine lv_iload hx hb dX9_tries_39 (lv_at hl 4 rfl) ?_
    refine lv_iconst (v := 1) hx hb dX9_tries_41 (by decide) ?_
    refine lv_iadd hx hb dX9_tries_42 ?_
    refine lv_istore (lv' := [(5, .int ((nI ak) + 1)), (0, .ref mo), (1, .int (nI ac)), (2, .int (nI ar)), (3, .int xd), (4, .int (nI ak))]) hx hb dX9_tries_43 hl (by decide) rfl (fun ls hl => ?_)
    refine lv_aload_n hx hb dX9_tries_45 rfl (lv_at hl 1 rfl) ?_
    refine va_get (D := D) (ci := 9) (v := .ref zs) (C := RX9) (T := TX9) (N := 26) hx hb hts hiX9 hown hK hP 0 rfl rfl 0 (by decide) (hts (.fieldLink RX9 7 "LedgeLeapsModel" "s" "[I") (List.mem_of_getElem? (i := 6) rfl)) (fun _ h9 => h9) rfl dX9_tries_46 ?_
    refine lv_bipush (v := 20) hx hb dX9_tries_49 (by decide) ?_
    refine va_iald hx hb hK hP 1 0 rfl rfl (show ¬ ((20 : Int32) < 0 ∨ 28 ≤ (20 : Int32).toNatClampNeg) by decide) dX9_tries_51 ?_
    refine top_i (y := (gs 20)) (rfl) ?_
    refine top_i (y := S.2.1.1) hS0.2.1.1 ?_
    refine lv_istore (lv' := [(6, .int S.2.1.1), (5, .int ((nI ak) + 1)), (0, .ref mo), (1, .int (nI ac)), (2, .int (nI ar)), (3, .int xd), (4, .int (nI ak))]) hx hb dX9_tries_52 hl (by decide) rfl (fun ls hl => ?_)
    refine lv_iconst (v := 0) hx hb dX9_tries_54 (by decide) ?_
    refine lv_istore (lv' := [(7, .int 0), (6, .int S.2.1.1), (5, .int ((nI ak) + 1)), (0, .ref mo), (1, .int (nI ac)), (2, .int (nI ar)), (3, .int xd), (4, .int (nI ak))]) hx hb dX9_tries_55 hl (by decide) rfl (fun ls hl => ?_)
    have loop_57 : ∀ (nfu : Nat) (nn9 jj9 oo9 : Nat) (cc9 tt9 sp9 ri9 : Int32) (me9 en9 : Bool) (hn_57 : nn9 < nfu) (hbk : Bk S.1 cc9 (nI jj9) = false) (hjo : jj9 ≤ oo9 ∧ oo9 < 10) (hJ : (en9 = false ∧ ∃ a9, FlI (Bk S.1) xd S.2.1.2.1 S.2.1.2.2 (flyR (Bk S.1) S.2.1.1 S.2.1.2.1 S.2.1.2.2 xd ac ar ak) nn9 a9 cc9 jj9 tt9 oo9 me9 sp9 ri9) ∨ (en9 = true ∧ cc9 = (flyR (Bk S.1) S.2.1.1 S.2.1.2.1 S.2.1.2.2 xd ac ar ak).1 ∧ nI jj9 = (flyR (Bk S.1) S.2.1.1 S.2.1.2.1 S.2.1.2.2 xd ac ar ak).2.1 ∧ tt9 = (flyR (Bk S.1) S.2.1.1 S.2.1.2.1 S.2.1.2.2 xd ac ar ak).2.2.1 ∧ nI oo9 = (flyR (Bk S.1) S.2.1.1 S.2.1.2.1 S.2.1.2.2 xd ac ar ak).2.2.2.1 ∧ me9 = (flyR (Bk S.1) S.2.1.1 S.2.1.2.1 S.2.1.2.2 xd ac ar ak).2.2.2.2.1)) (H : Heap) (locs : List Loc) (hP : va_P D vwCl (oX9 mo zs zv vn zl zk zt vl vh zg zi zw vg zo ze cc9 (nI jj9) tt9 (nI oo9) (bI me9) vp va vb vd vq zd vz :: aI cI zs 28 gs :: X) H) (hD : va_D A (oX9 mo zs zv vn zl zk zt vl vh zg zi zw vg zo ze cc9 (nI jj9) tt9 (nI oo9) (bI me9) vp va vb vd vq zd vz :: aI cI zs 28 gs :: X)) (hS : va_S A s.heap H locs) (ls : Array Slot) (hl : lv_has ls 10 [(5, .int sp9), (6, .int ri9), (7, .int (bI en9)), (0, .ref mo), (1, .int (nI ac)), (2, .int (nI ar)), (3, .int xd), (4, .int (nI ak))]), W p l e ({ frames := 5, cells := 0, slots := 0, locals := 111 } : Room) s m (([.ref mo, .int (nI ac), .int (nI ar), .int xd, .int (nI ak)] : List Value).toArray) below meth c H locs 0 0 (MQ below (va_Qi (fun (r : Int32) (u : Int32 × Int32 × Int32 × Int32 × Bool) => r = bI (!decide (grB (Bk S.1) (nI ac) (nI ar) xd < nI ak)) ∧ (¬ grB (Bk S.1) (nI ac) (nI ar) xd < nI ak → u.1 = (flyR (Bk S.1) S.2.1.1 S.2.1.2.1 S.2.1.2.2 xd ac ar ak).1 ∧ u.2.1 = (flyR (Bk S.1) S.2.1.1 S.2.1.2.1 S.2.1.2.2 xd ac ar ak).2.1 ∧ u.2.2.1 = (flyR (Bk S.1) S.2.1.1 S.2.1.2.1 S.2.1.2.2 xd ac ar ak).2.2.1 ∧ u.2.2.2.1 = (flyR (Bk S.1) S.2.1.1 S.2.1.2.1 S.2.1.2.2 xd ac ar ak).2.2.2.1 ∧ u.2.2.2.2 = (flyR (Bk S.1) S.2.1.1 S.2.1.2.1 S.2.1.2.2 xd ac ar ak).2.2.2.2.1)) (fun (u : Int32 × Int32 × Int32 × Int32 × Bool) t => wq D A (oX9 mo zs zv vn zl zk zt vl vh zg zi zw vg zo ze u.1 u.2.1 u.2.2.1 u.2.2.2.1 (bI u.2.2.2.2) vp va vb vd vq zd vz :: aI cI zs 28 gs :: X) t) A) (([.ref mo, .int (nI ac), .int (nI ar), .int xd, .int (nI ak)] : List Value).toArray) s 0 0 A) (F0 m 57 ls []) := by
      intro nfu
      induction nfu with
      | zero => intro nn9 jj9 oo9 cc9 tt9 sp9 ri9 me9 en9 hn_57; exact absurd hn_57 (Nat.not_lt_zero _)
      | succ nfu ih_57 =>
        intro nn9 jj9 oo9 cc9 tt9 sp9 ri9 me9 en9 hn_57 hbk hjo hJ H locs hP hD hS ls hl
        refine lv_iload hx hb dX9_tries_57 (lv_at hl 2 rfl) ?_
        refine lv_if_ne (tgt := 230) hx hb dX9_tries_59 (by decide) (fun c_59 => ?_) (fun c_59 => ?_)
        · refine lv_iconst (v := 1) hx hb dX9_tries_230 (by decide) ?_
          exact W.zret (v := 1) (ty := .boolean) hx hb hr (rfl) (fun t9 ht9 hW9 => ⟨⟨1, (cc9, nI jj9, tt9, nI oo9, me9), rfl, ⟨by rw [decide_eq_false (Int32.not_lt.mpr c_9)]; rfl, fun _ => by rcases hJ with ⟨h, -⟩ | ⟨-, h⟩; (exfalso; have q := bt_c c_59; rw [h] at q; cases q); exact h⟩, by rw [ht9]; exact hP, hD⟩, hS.F ht9⟩) hS.2.2 dX9_tries_231
        · have hen : en9 = false := bf_c c_59
          obtain ⟨a9, hF⟩ : ∃ a9, FlI (Bk S.1) xd S.2.1.2.1 S.2.1.2.2 (flyR (Bk S.1) S.2.1.1 S.2.1.2.1 S.2.1.2.2 xd ac ar ak) nn9 a9 cc9 jj9 tt9 oo9 me9 sp9 ri9 := by rcases hJ with ⟨-, h⟩ | ⟨h, -⟩; exact h; rw [hen] at h; cases h
          refine lv_aload_n hx hb dX9_tries_62 rfl (lv_at hl 3 rfl) ?_
          refine lv_dup hx hb dX9_tries_63 rfl ?_
          refine va_get (D := D) (ci := 9) (v := .int tt9) (C := RX9) (T := TX9) (N := 26) hx hb hts hiX9 hown hK hP 0 rfl rfl 16 (by decide) (hts (.fieldLink RX9 89 "LedgeLeapsModel" "ticks" "I") (List.mem_of_getElem? (i := 4) rfl)) (fun _ h9 => h9) rfl dX9_tries_64 ?_
          refine lv_iconst (v := 1) hx hb dX9_tries_67 (by decide) ?_
          refine lv_iadd hx hb dX9_tries_68 ?_
          refine va_put (D := D) (ci := 9) (v := .int (tt9 + 1)) (ty := .int) (C := RX9) (T := TX9) (N := 26) hx hb hts hiX9 tyX9 tyX9_ok nmX9 hown hK hP hD hS 0 rfl rfl 16 (by decide) (hts (.fieldLink RX9 89 "LedgeLeapsModel" "ticks" "I") (List.mem_of_getElem? (i := 4) rfl)) (fun _ h9 => h9) rfl (by decide +kernel) rfl rfl (Nat.le_of_ble_eq_true rfl) dX9_tries_69 (fun H locs hP hD hS => ?_)
          have hP : va_P D vwCl (oX9 mo zs zv vn zl zk zt vl vh zg zi zw vg zo ze cc9 (nI jj9) (tt9 + 1) (nI oo9) (bI me9) vp va vb vd vq zd vz :: aI cI zs 28 gs :: X) H := hP
          have hD : va_D A (oX9 mo zs zv vn zl zk zt vl vh zg zi zw vg zo ze cc9 (nI jj9) (tt9 + 1) (nI oo9) (bI me9) vp va vb vd vq zd vz :: aI cI zs 28 gs :: X) := hD
          refine lv_iload hx hb dX9_tries_72 (lv_at hl 0 rfl) ?_
          refine lv_istore (lv' := [(8, .int sp9), (5, .int sp9), (6, .int ri9), (7, .int (bI en9)), (0, .ref mo), (1, .int (nI ac)), (2, .int (nI ar)), (3, .int xd), (4, .int (nI ak))]) hx hb dX9_tries_74 hl (by decide) rfl (fun ls hl => ?_)
          refine lv_iconst (v := 0) hx hb dX9_tries_76 (by decide) ?_
          refine lv_istore (lv' := [(9, .int 0), (8, .int sp9), (5, .int sp9), (6, .int ri9), (7, .int (bI en9)), (0, .ref mo), (1, .int (nI ac)), (2, .int (nI ar)), (3, .int xd), (4, .int (nI ak))]) hx hb dX9_tries_77 hl (by decide) rfl (fun ls hl => ?_)
          have loop_79 : ∀ (nfu : Nat) (k8 : Nat) (c8 s8 : Int32) (m8 : Bool) (hn_79 : sp9.toNatClampNeg - k8 < nfu) (hk8 : k8 ≤ sp9.toNatClampNeg) (hD8 : (s8 = sp9 ∧ m8 = me9 ∧ sideF (Bk S.1) xd (nI jj9) (sp9.toNatClampNeg - k8) c8 = sideF (Bk S.1) xd (nI jj9) sp9.toNatClampNeg cc9) ∨ (s8 = 0 ∧ m8 = true ∧ sideF (Bk S.1) xd (nI jj9) sp9.toNatClampNeg cc9 = (c8, true))) (H : Heap) (locs : List Loc) (hP : va_P D vwCl (oX9 mo zs zv vn zl zk zt vl vh zg zi zw vg zo ze c8 (nI jj9) (tt9 + 1) (nI oo9) (bI m8) vp va vb vd vq zd vz :: aI cI zs 28 gs :: X) H) (hD : va_D A (oX9 mo zs zv vn zl zk zt vl vh zg zi zw vg zo ze c8 (nI jj9) (tt9 + 1) (nI oo9) (bI m8) vp va vb vd vq zd vz :: aI cI zs 28 gs :: X)) (hS : va_S A s.heap H locs) (ls : Array Slot) (hl : lv_has ls 10 [(9, .int (nI k8)), (8, .int sp9), (5, .int s8), (6, .int ri9), (7, .int (bI en9)), (0, .ref mo), (1, .int (nI ac)), (2, .int (nI ar)), (3, .int xd), (4, .int (nI ak))]), W p l e ({ frames := 5, cells := 0, slots := 0, locals := 111 } : Room) s m (([.ref mo, .int (nI ac), .int (nI ar), .int xd, .int (nI ak)] : List Value).toArray) below meth c H locs 0 0 (MQ below (va_Qi (fun (r : Int32) (u : Int32 × Int32 × Int32 × Int32 × Bool) => r = bI (!decide (grB (Bk S.1) (nI ac) (nI ar) xd < nI ak)) ∧ (¬ grB (Bk S.1) (nI ac) (nI ar) xd < nI ak → u.1 = (flyR (Bk S.1) S.2.1.1 S.2.1.2.1 S.2.1.2.2 xd ac ar ak).1 ∧ u.2.1 = (flyR (Bk S.1) S.2.1.1 S.2.1.2.1 S.2.1.2.2 xd ac ar ak).2.1 ∧ u.2.2.1 = (flyR (Bk S.1) S.2.1.1 S.2.1.2.1 S.2.1.2.2 xd ac ar ak).2.2.1 ∧ u.2.2.2.1 = (flyR (Bk S.1) S.2.1.1 S.2.1.2.1 S.2.1.2.2 xd ac ar ak).2.2.2.1 ∧ u.2.2.2.2 = (flyR (Bk S.1) S.2.1.1 S.2.1.2.1 S.2.1.2.2 xd ac ar ak).2.2.2.2.1)) (fun (u : Int32 × Int32 × Int32 × Int32 × Bool) t => wq D A (oX9 mo zs zv vn zl zk zt vl vh zg zi zw vg zo ze u.1 u.2.1 u.2.2.1 u.2.2.2.1 (bI u.2.2.2.2) vp va vb vd vq zd vz :: aI cI zs 28 gs :: X) t) A) (([.ref mo, .int (nI ac), .int (nI ar), .int xd, .int (nI ak)] : List Value).toArray) s 0 0 A) (F0 m 79 ls []) := by
            intro nfu
            induction nfu with
            | zero => intro k8 c8 s8 m8 hn_79; exact absurd hn_79 (Nat.not_lt_zero _)
            | succ nfu ih_79 =>
              intro k8 c8 s8 m8 hn_79 hk8 hD8 H locs hP hD hS ls hl
              refine lv_iload hx hb dX9_tries_79 (lv_at hl 0 rfl) ?_
              refine lv_iload hx hb dX9_tries_81 (lv_at hl 1 rfl) ?_
              refine lv_icmp_ge (tgt := 135) hx hb dX9_tries_83 (by decide) (fun c_83 => ?_) (fun c_83 => ?_)
              · obtain ⟨h2, hsd, hm2, hs2⟩ : ∃ h2, sideF (Bk S.1) xd (nI jj9) sp9.toNatClampNeg cc9 = (c8, h2) ∧ m8 = (me9 || h2) ∧ s8 = (if h2 = true then 0 else sp9) := by
                  rcases hD8 with ⟨e8, e8m, e8s⟩ | ⟨e8, e8m, e8s⟩
                  · exact ⟨false, by rw [← e8s, show sp9.toNatClampNeg - k8 = 0 from (by have h : ¬ k8 < sp9.toNatClampNeg := fun q => Int32.not_le.mpr ((lt_cl (x := sp9) (i := k8) (by have := cl_lt sp9; omega)).mpr q) c_83; omega)]; rfl, by rw [e8m, Bool.or_false], e8⟩
                  · exact ⟨true, e8s, by rw [e8m, Bool.or_true], e8⟩
                refine lv_iload hx hb dX9_tries_135 (lv_at hl 3 rfl) ?_
                refine lv_if_le (tgt := 151) hx hb dX9_tries_137 (by decide) (fun c_137 => ?_) (fun c_137 => ?_)
                · refine lv_iload hx hb dX9_tries_151 (lv_at hl 3 rfl) ?_
                  refine lv_if_ge (tgt := 195) hx hb dX9_tries_153 (by decide) (fun c_153 => ?_) (fun c_153 => ?_)
                  · obtain ⟨hn1, j2, hd1, hb2, hj2, hdf, -⟩ := hF.down hBO hnf e2 hns e3 (Int32.not_lt.mpr c_137) hbk hjo hsd
                    have hz9 : stepsF (me9 || h2) ri9 S.2.1.2.2 = 0 := by have q1 := Int32.not_lt.mpr c_137; have q2 := c_153; rw [hF.1] at q1 q2 ⊢; rw [e3]; exact steps_0 hF.2.1 hns q1 q2
                    rw [hz9] at hd1 hdf
                    have hd1 : nI jj9 = nI j2 := hd1
                    rw [hd1] at hP hD
                    have hP : va_P D vwCl (oX9 mo zs zv vn zl zk zt vl vh zg zi zw vg zo ze c8 (nI j2) (tt9 + 1) (nI oo9) (bI m8) vp va vb vd vq zd vz :: aI cI zs 28 gs :: X) H := hP
                    have hD : va_D A (oX9 mo zs zv vn zl zk zt vl vh zg zi zw vg zo ze c8 (nI j2) (tt9 + 1) (nI oo9) (bI m8) vp va vb vd vq zd vz :: aI cI zs 28 gs :: X) := hD
                    refine lv_iload hx hb dX9_tries_195 (lv_at hl 3 rfl) ?_
                    refine lv_iconst (v := 1) hx hb dX9_tries_197 (by decide) ?_
                    refine lv_isub hx hb dX9_tries_198 ?_
                    refine lv_aload_n hx hb dX9_tries_199 rfl (lv_at hl 5 rfl) ?_
                    refine va_get (D := D) (ci := 9) (v := .ref zs) (C := RX9) (T := TX9) (N := 26) hx hb hts hiX9 hown hK hP 0 rfl rfl 0 (by decide) (hts (.fieldLink RX9 7 "LedgeLeapsModel" "s" "[I") (List.mem_of_getElem? (i := 6) rfl)) (fun _ h9 => h9) rfl dX9_tries_200 ?_
                    refine lv_bipush (v := 21) hx hb dX9_tries_203 (by decide) ?_
                    refine va_iald hx hb hK hP 1 0 rfl rfl (show ¬ ((21 : Int32) < 0 ∨ 28 ≤ (21 : Int32).toNatClampNeg) by decide) dX9_tries_205 ?_
                    refine top_i (y := (gs 21)) (rfl) ?_
                    refine top_i (y := S.2.1.2.1) hS0.2.1.2.1 ?_
                    refine lv_ineg hx hb dX9_tries_206 ?_
                    refine lv_icmp_ge (tgt := 221) hx hb dX9_tries_207 (by decide) (fun c_207 => ?_) (fun c_207 => ?_)
                    · refine lv_iload hx hb dX9_tries_221 (lv_at hl 3 rfl) ?_
                      refine lv_iconst (v := 1) hx hb dX9_tries_223 (by decide) ?_
                      refine lv_isub hx hb dX9_tries_224 ?_
                      refine top_i (y := (max2 (ri9 - 1) (-S.2.1.2.1))) (max2_f (Int32.not_lt.mpr c_207)) ?_
                      refine lv_istore (lv' := [(6, .int (max2 (ri9 - 1) (-S.2.1.2.1))), (9, .int (nI k8)), (8, .int sp9), (5, .int s8), (7, .int (bI en9)), (0, .ref mo), (1, .int (nI ac)), (2, .int (nI ar)), (3, .int xd), (4, .int (nI ak))]) hx hb dX9_tries_225 hl (by decide) rfl (fun ls hl => ?_)
                      refine lv_goto (tgt := 57) hx hb dX9_tries_227 (by decide) ?_
                      exact ih_57 (nn9 - 1) j2 oo9 c8 (tt9 + 1) s8 (max2 (ri9 - 1) (-S.2.1.2.1)) m8 en9 (by omega) (hb2) (hj2) (Or.inl ⟨hen, by rw [hm2, hs2]; exact hdf rfl⟩) _ _ (hP) (hD) hS _ (lv_sub hl [3, 0, 4, 5, 6, 7, 8, 9] rfl)
                    · refine lv_aload_n hx hb dX9_tries_210 rfl (lv_at hl 5 rfl) ?_
                      refine va_get (D := D) (ci := 9) (v := .ref zs) (C := RX9) (T := TX9) (N := 26) hx hb hts hiX9 hown hK hP 0 rfl rfl 0 (by decide) (hts (.fieldLink RX9 7 "LedgeLeapsModel" "s" "[I") (List.mem_of_getElem? (i := 6) rfl)) (fun _ h9 => h9) rfl dX9_tries_211 ?_
                      refine lv_bipush (v := 21) hx hb dX9_tries_214 (by decide) ?_
                      refine va_iald hx hb hK hP 1 0 rfl rfl (show ¬ ((21 : Int32) < 0 ∨ 28 ≤ (21 : Int32).toNatClampNeg) by decide) dX9_tries_216 ?_
                      refine top_i (y := (gs 21)) (rfl) ?_
                      refine top_i (y := S.2.1.2.1) hS0.2.1.2.1 ?_
                      refine lv_ineg hx hb dX9_tries_217 ?_
                      refine top_i (y := (max2 (ri9 - 1) (-S.2.1.2.1))) (max2_t (Int32.not_le.mp c_207)) ?_
                      refine lv_goto (tgt := 225) hx hb dX9_tries_218 (by decide) ?_
                      refine lv_istore (lv' := [(6, .int (max2 (ri9 - 1) (-S.2.1.2.1))), (9, .int (nI k8)), (8, .int sp9), (5, .int s8), (7, .int (bI en9)), (0, .ref mo), (1, .int (nI ac)), (2, .int (nI ar)), (3, .int xd), (4, .int (nI ak))]) hx hb dX9_tries_225 hl (by decide) rfl (fun ls hl => ?_)
                      refine lv_goto (tgt := 57) hx hb dX9_tries_227 (by decide) ?_
                      exact ih_57 (nn9 - 1) j2 oo9 c8 (tt9 + 1) s8 (max2 (ri9 - 1) (-S.2.1.2.1)) m8 en9 (by omega) (hb2) (hj2) (Or.inl ⟨hen, by rw [hm2, hs2]; exact hdf rfl⟩) _ _ (hP) (hD) hS _ (lv_sub hl [3, 0, 4, 5, 6, 7, 8, 9] rfl)
                  · refine lv_aload_n hx hb dX9_tries_156 rfl (lv_at hl 5 rfl) ?_
                    refine lv_aload_n hx hb dX9_tries_157 rfl (lv_at hl 5 rfl) ?_
                    refine va_get (D := D) (ci := 9) (v := .int (bI m8)) (C := RX9) (T := TX9) (N := 26) hx hb hts hiX9 hown hK hP 0 rfl rfl 18 (by decide) (hts (.fieldLink RX9 92 "LedgeLeapsModel" "isMet" "Z") (List.mem_of_getElem? (i := 5) rfl)) (fun _ h9 => h9) rfl dX9_tries_158 ?_
                    refine lv_if_eq (tgt := 187) hx hb dX9_tries_161 (by decide) (fun c_161 => ?_) (fun c_161 => ?_)
                    · refine lv_iload hx hb dX9_tries_187 (lv_at hl 3 rfl) ?_
                      refine lv_ineg hx hb dX9_tries_189 ?_
                      refine cV_i CF hK hN hA hS (cut_of 2 [0, 1] hP hD rfl rfl rfl) (n_goDown l D cI cZ cW cJ A (X) mo zs zv zl zk zt zg zi zw zo ze zd vn vl vh vg c8 (nI jj9) (tt9 + 1) (nI oo9) vp va vb vd vq m8 vz gs S (-ri9) hS0 (by rw [hF.1]; exact (ri_small _ hF.2.1).2)) (cwV 1 hts gX9_tries_X9_goDown rfl rfl rfl (by decide +kernel) ⟨Nat.le_of_ble_eq_true rfl, Nat.le_of_ble_eq_true rfl⟩) (As := [.int (-ri9)]) (rest := []) (ci := 9) (q0 := 0) rfl rfl rfl hl.1 rfl (Nat.le_of_ble_eq_true rfl) dX9_tries_190 ⟨Nat.le_of_ble_eq_true rfl, Nat.le_of_ble_eq_true rfl⟩ (fun r_190 u_190 H locs hq hP hD hS => ?_)
                      have hq_190 : r_190 = bI (downF (Bk S.1) c8 (-ri9).toNatClampNeg (nI jj9)).2 ∧ u_190 = (downF (Bk S.1) c8 (-ri9).toNatClampNeg (nI jj9)).1 := hq
                      have hr_190 : r_190 = bI (downF (Bk S.1) c8 (-ri9).toNatClampNeg (nI jj9)).2 := hq_190.1
                      subst hr_190
                      have hP : va_P D vwCl (oX9 mo zs zv vn zl zk zt vl vh zg zi zw vg zo ze c8 u_190 (tt9 + 1) (nI oo9) (bI m8) vp va vb vd vq zd vz :: aI cI zs 28 gs :: X) H := pm_P hP 2 [0, 1] rfl
                      have hD : va_D A (oX9 mo zs zv vn zl zk zt vl vh zg zi zw vg zo ze c8 u_190 (tt9 + 1) (nI oo9) (bI m8) vp va vb vd vq zd vz :: aI cI zs 28 gs :: X) := pm_D hD 2 [0, 1] rfl rfl rfl
                      have hst9 : (-ri9).toNatClampNeg = stepsF (me9 || h2) ri9 S.2.1.2.2 := by rw [← hm2, bf_c c_161]; exact steps_free
                      obtain ⟨hn1, j2, hd1, hb2, hj2, hdf, hdt⟩ := hF.down hBO hnf e2 hns e3 (Int32.not_lt.mpr c_137) hbk hjo hsd
                      rw [← hst9] at hd1 hdf hdt
                      have hu9 : u_190 = nI j2 := hq_190.2.trans hd1
                      rw [hu9] at hP hD
                      have hP : va_P D vwCl (oX9 mo zs zv vn zl zk zt vl vh zg zi zw vg zo ze c8 (nI j2) (tt9 + 1) (nI oo9) (bI m8) vp va vb vd vq zd vz :: aI cI zs 28 gs :: X) H := hP
                      have hD : va_D A (oX9 mo zs zv vn zl zk zt vl vh zg zi zw vg zo ze c8 (nI j2) (tt9 + 1) (nI oo9) (bI m8) vp va vb vd vq zd vz :: aI cI zs 28 gs :: X) := hD
                      refine lv_istore (lv' := [(7, .int (bI (downF (Bk S.1) c8 (-ri9).toNatClampNeg (nI jj9)).2)), (9, .int (nI k8)), (8, .int sp9), (5, .int s8), (6, .int ri9), (0, .ref mo), (1, .int (nI ac)), (2, .int (nI ar)), (3, .int xd), (4, .int (nI ak))]) hx hb dX9_tries_193 hl (by decide) rfl (fun ls hl => ?_)
                      refine lv_iload hx hb dX9_tries_195 (lv_at hl 4 rfl) ?_
                      refine lv_iconst (v := 1) hx hb dX9_tries_197 (by decide) ?_
                      refine lv_isub hx hb dX9_tries_198 ?_
                      refine lv_aload_n hx hb dX9_tries_199 rfl (lv_at hl 5 rfl) ?_
                      refine va_get (D := D) (ci := 9) (v := .ref zs) (C := RX9) (T := TX9) (N := 26) hx hb hts hiX9 hown hK hP 0 rfl rfl 0 (by decide) (hts (.fieldLink RX9 7 "LedgeLeapsModel" "s" "[I") (List.mem_of_getElem? (i := 6) rfl)) (fun _ h9 => h9) rfl dX9_tries_200 ?_
                      refine lv_bipush (v := 21) hx hb dX9_tries_203 (by decide) ?_
                      refine va_iald hx hb hK hP 1 0 rfl rfl (show ¬ ((21 : Int32) < 0 ∨ 28 ≤ (21 : Int32).toNatClampNeg) by decide) dX9_tries_205 ?_
                      refine top_i (y := (gs 21)) (rfl) ?_
                      refine top_i (y := S.2.1.2.1) hS0.2.1.2.1 ?_
                      refine lv_ineg hx hb dX9_tries_206 ?_
                      refine lv_icmp_ge (tgt := 221) hx hb dX9_tries_207 (by decide) (fun c_207 => ?_) (fun c_207 => ?_)
                      · refine lv_iload hx hb dX9_tries_221 (lv_at hl 4 rfl) ?_
                        refine lv_iconst (v := 1) hx hb dX9_tries_223 (by decide) ?_
                        refine lv_isub hx hb dX9_tries_224 ?_
                        refine top_i (y := (max2 (ri9 - 1) (-S.2.1.2.1))) (max2_f (Int32.not_lt.mpr c_207)) ?_
                        refine lv_istore (lv' := [(6, .int (max2 (ri9 - 1) (-S.2.1.2.1))), (7, .int (bI (downF (Bk S.1) c8 (-ri9).toNatClampNeg (nI jj9)).2)), (9, .int (nI k8)), (8, .int sp9), (5, .int s8), (0, .ref mo), (1, .int (nI ac)), (2, .int (nI ar)), (3, .int xd), (4, .int (nI ak))]) hx hb dX9_tries_225 hl (by decide) rfl (fun ls hl => ?_)
                        refine lv_goto (tgt := 57) hx hb dX9_tries_227 (by decide) ?_
                        refine ih_57 (nn9 - 1) j2 oo9 c8 (tt9 + 1) s8 (max2 (ri9 - 1) (-S.2.1.2.1)) m8 ((downF (Bk S.1) c8 (-ri9).toNatClampNeg (nI jj9)).2) (by omega) (hb2) (hj2) ?_ _ _ (hP) (hD) hS _ (lv_sub hl [4, 0, 1, 5, 6, 7, 8, 9] rfl)
                        · rw [hm2, hs2]
                          cases hz : (downF (Bk S.1) c8 (-ri9).toNatClampNeg (nI jj9)).2 with
                          | false => exact Or.inl ⟨rfl, hdf hz⟩
                          | true => exact Or.inr ⟨rfl, hdt hz⟩
                      · refine lv_aload_n hx hb dX9_tries_210 rfl (lv_at hl 5 rfl) ?_
                        refine va_get (D := D) (ci := 9) (v := .ref zs) (C := RX9) (T := TX9) (N := 26) hx hb hts hiX9 hown hK hP 0 rfl rfl 0 (by decide) (hts (.fieldLink RX9 7 "LedgeLeapsModel" "s" "[I") (List.mem_of_getElem? (i := 6) rfl)) (fun _ h9 => h9) rfl dX9_tries_211 ?_
                        refine lv_bipush (v := 21) hx hb dX9_tries_214 (by decide) ?_
                        refine va_iald hx hb hK hP 1 0 rfl rfl (show ¬ ((21 : Int32) < 0 ∨ 28 ≤ (21 : Int32).toNatClampNeg) by decide) dX9_tries_216 ?_
                        refine top_i (y := (gs 21)) (rfl) ?_
                        refine top_i (y := S.2.1.2.1) hS0.2.1.2.1 ?_
                        refine lv_ineg hx hb dX9_tries_217 ?_
                        refine top_i (y := (max2 (ri9 - 1) (-S.2.1.2.1))) (max2_t (Int32.not_le.mp c_207)) ?_
                        refine lv_goto (tgt := 225) hx hb dX9_tries_218 (by decide) ?_
                        refine lv_istore (lv' := [(6, .int (max2 (ri9 - 1) (-S.2.1.2.1))), (7, .int (bI (downF (Bk S.1) c8 (-ri9).toNatClampNeg (nI jj9)).2)), (9, .int (nI k8)), (8, .int sp9), (5, .int s8), (0, .ref mo), (1, .int (nI ac)), (2, .int (nI ar)), (3, .int xd), (4, .int (nI ak))]) hx hb dX9_tries_225 hl (by decide) rfl (fun ls hl => ?_)
                        refine lv_goto (tgt := 57) hx hb dX9_tries_227 (by decide) ?_
                        refine ih_57 (nn9 - 1) j2 oo9 c8 (tt9 + 1) s8 (max2 (ri9 - 1) (-S.2.1.2.1)) m8 ((downF (Bk S.1) c8 (-ri9).toNatClampNeg (nI jj9)).2) (by omega) (hb2) (hj2) ?_ _ _ (hP) (hD) hS _ (lv_sub hl [4, 0, 1, 5, 6, 7, 8, 9] rfl)
                        · rw [hm2, hs2]
                          cases hz : (downF (Bk S.1) c8 (-ri9).toNatClampNeg (nI jj9)).2 with
                          | false => exact Or.inl ⟨rfl, hdf hz⟩
                          | true => exact Or.inr ⟨rfl, hdt hz⟩
                    · refine lv_iload hx hb dX9_tries_164 (lv_at hl 3 rfl) ?_
                      refine lv_ineg hx hb dX9_tries_166 ?_
                      refine lv_aload_n hx hb dX9_tries_167 rfl (lv_at hl 5 rfl) ?_
                      refine va_get (D := D) (ci := 9) (v := .ref zs) (C := RX9) (T := TX9) (N := 26) hx hb hts hiX9 hown hK hP 0 rfl rfl 0 (by decide) (hts (.fieldLink RX9 7 "LedgeLeapsModel" "s" "[I") (List.mem_of_getElem? (i := 6) rfl)) (fun _ h9 => h9) rfl dX9_tries_168 ?_
                      refine lv_bipush (v := 22) hx hb dX9_tries_171 (by decide) ?_
                      refine va_iald hx hb hK hP 1 0 rfl rfl (show ¬ ((22 : Int32) < 0 ∨ 28 ≤ (22 : Int32).toNatClampNeg) by decide) dX9_tries_173 ?_
                      refine top_i (y := (gs 22)) (rfl) ?_
                      refine top_i (y := S.2.1.2.2) hS0.2.1.2.2 ?_
                      refine lv_icmp_le (tgt := 187) hx hb dX9_tries_174 (by decide) (fun c_174 => ?_) (fun c_174 => ?_)
                      · refine lv_iload hx hb dX9_tries_187 (lv_at hl 3 rfl) ?_
                        refine lv_ineg hx hb dX9_tries_189 ?_
                        refine cV_i CF hK hN hA hS (cut_of 2 [0, 1] hP hD rfl rfl rfl) (n_goDown l D cI cZ cW cJ A (X) mo zs zv zl zk zt zg zi zw zo ze zd vn vl vh vg c8 (nI jj9) (tt9 + 1) (nI oo9) vp va vb vd vq m8 vz gs S (-ri9) hS0 (by rw [hF.1]; exact (ri_small _ hF.2.1).2)) (cwV 1 hts gX9_tries_X9_goDown rfl rfl rfl (by decide +kernel) ⟨Nat.le_of_ble_eq_true rfl, Nat.le_of_ble_eq_true rfl⟩) (As := [.int (-ri9)]) (rest := []) (ci := 9) (q0 := 0) rfl rfl rfl hl.1 rfl (Nat.le_of_ble_eq_true rfl) dX9_tries_190 ⟨Nat.le_of_ble_eq_true rfl, Nat.le_of_ble_eq_true rfl⟩ (fun r_190 u_190 H locs hq hP hD hS => ?_)
                        have hq_190 : r_190 = bI (downF (Bk S.1) c8 (-ri9).toNatClampNeg (nI jj9)).2 ∧ u_190 = (downF (Bk S.1) c8 (-ri9).toNatClampNeg (nI jj9)).1 := hq
                        have hr_190 : r_190 = bI (downF (Bk S.1) c8 (-ri9).toNatClampNeg (nI jj9)).2 := hq_190.1
                        subst hr_190
                        have hP : va_P D vwCl (oX9 mo zs zv vn zl zk zt vl vh zg zi zw vg zo ze c8 u_190 (tt9 + 1) (nI oo9) (bI m8) vp va vb vd vq zd vz :: aI cI zs 28 gs :: X) H := pm_P hP 2 [0, 1] rfl
                        have hD : va_D A (oX9 mo zs zv vn zl zk zt vl vh zg zi zw vg zo ze c8 u_190 (tt9 + 1) (nI oo9) (bI m8) vp va vb vd vq zd vz :: aI cI zs 28 gs :: X) := pm_D hD 2 [0, 1] rfl rfl rfl
                        have hst9 : (-ri9).toNatClampNeg = stepsF (me9 || h2) ri9 S.2.1.2.2 := by rw [← hm2, bt_c c_161]; exact steps_met2 (Int32.not_lt.mpr c_174)
                        obtain ⟨hn1, j2, hd1, hb2, hj2, hdf, hdt⟩ := hF.down hBO hnf e2 hns e3 (Int32.not_lt.mpr c_137) hbk hjo hsd
                        rw [← hst9] at hd1 hdf hdt
                        have hu9 : u_190 = nI j2 := hq_190.2.trans hd1
                        rw [hu9] at hP hD
                        have hP : va_P D vwCl (oX9 mo zs zv vn zl zk zt vl vh zg zi zw vg zo ze c8 (nI j2) (tt9 + 1) (nI oo9) (bI m8) vp va vb vd vq zd vz :: aI cI zs 28 gs :: X) H := hP
                        have hD : va_D A (oX9 mo zs zv vn zl zk zt vl vh zg zi zw vg zo ze c8 (nI j2) (tt9 + 1) (nI oo9) (bI m8) vp va vb vd vq zd vz :: aI cI zs 28 gs :: X) := hD
                        refine lv_istore (lv' := [(7, .int (bI (downF (Bk S.1) c8 (-ri9).toNatClampNeg (nI jj9)).2)), (9, .int (nI k8)), (8, .int sp9), (5, .int s8), (6, .int ri9), (0, .ref mo), (1, .int (nI ac)), (2, .int (nI ar)), (3, .int xd), (4, .int (nI ak))]) hx hb dX9_tries_193 hl (by decide) rfl (fun ls hl => ?_)
                        refine lv_iload hx hb dX9_tries_195 (lv_at hl 4 rfl) ?_
                        refine lv_iconst (v := 1) hx hb dX9_tries_197 (by decide) ?_
                        refine lv_isub hx hb dX9_tries_198 ?_
                        refine lv_aload_n hx hb dX9_tries_199 rfl (lv_at hl 5 rfl) ?_
                        refine va_get (D := D) (ci := 9) (v := .ref zs) (C := RX9) (T := TX9) (N := 26) hx hb hts hiX9 hown hK hP 0 rfl rfl 0 (by decide) (hts (.fieldLink RX9 7 "LedgeLeapsModel" "s" "[I") (List.mem_of_getElem? (i := 6) rfl)) (fun _ h9 => h9) rfl dX9_tries_200 ?_
                        refine lv_bipush (v := 21) hx hb dX9_tries_203 (by decide) ?_
                        refine va_iald hx hb hK hP 1 0 rfl rfl (show ¬ ((21 : Int32) < 0 ∨ 28 ≤ (21 : Int32).toNatClampNeg) by decide) dX9_tries_205 ?_
                        refine top_i (y := (gs 21)) (rfl) ?_
                        refine top_i (y := S.2.1.2.1) hS0.2.1.2.1 ?_
                        refine lv_ineg hx hb dX9_tries_206 ?_
                        refine lv_icmp_ge (tgt := 221) hx hb dX9_tries_207 (by decide) (fun c_207 => ?_) (fun c_207 => ?_)
                        · refine lv_iload hx hb dX9_tries_221 (lv_at hl 4 rfl) ?_
                          refine lv_iconst (v := 1) hx hb dX9_tries_223 (by decide) ?_
                          refine lv_isub hx hb dX9_tries_224 ?_
                          refine top_i (y := (max2 (ri9 - 1) (-S.2.1.2.1))) (max2_f (Int32.not_lt.mpr c_207)) ?_
                          refine lv_istore (lv' := [(6, .int (max2 (ri9 - 1) (-S.2.1.2.1))), (7, .int (bI (downF (Bk S.1) c8 (-ri9).toNatClampNeg (nI jj9)).2)), (9, .int (nI k8)), (8, .int sp9), (5, .int s8), (0, .ref mo), (1, .int (nI ac)), (2, .int (nI ar)), (3, .int xd), (4, .int (nI ak))]) hx hb dX9_tries_225 hl (by decide) rfl (fun ls hl => ?_)
                          refine lv_goto (tgt := 57) hx hb dX9_tries_227 (by decide) ?_
                          refine ih_57 (nn9 - 1) j2 oo9 c8 (tt9 + 1) s8 (max2 (ri9 - 1) (-S.2.1.2.1)) m8 ((downF (Bk S.1) c8 (-ri9).toNatClampNeg (nI jj9)).2) (by omega) (hb2) (hj2) ?_ _ _ (hP) (hD) hS _ (lv_sub hl [4, 0, 1, 5, 6, 7, 8, 9] rfl)
                          · rw [hm2, hs2]
                            cases hz : (downF (Bk S.1) c8 (-ri9).toNatClampNeg (nI jj9)).2 with
                            | false => exact Or.inl ⟨rfl, hdf hz⟩
                            | true => exact Or.inr ⟨rfl, hdt hz⟩
                        · refine lv_aload_n hx hb dX9_tries_210 rfl (lv_at hl 5 rfl) ?_
                          refine va_get (D := D) (ci := 9) (v := .ref zs) (C := RX9) (T := TX9) (N := 26) hx hb hts hiX9 hown hK hP 0 rfl rfl 0 (by decide) (hts (.fieldLink RX9 7 "LedgeLeapsModel" "s" "[I") (List.mem_of_getElem? (i := 6) rfl)) (fun _ h9 => h9) rfl dX9_tries_211 ?_
                          refine lv_bipush (v := 21) hx hb dX9_tries_214 (by decide) ?_
                          refine va_iald hx hb hK hP 1 0 rfl rfl (show ¬ ((21 : Int32) < 0 ∨ 28 ≤ (21 : Int32).toNatClampNeg) by decide) dX9_tries_216 ?_
                          refine top_i (y := (gs 21)) (rfl) ?_
                          refine top_i (y := S.2.1.2.1) hS0.2.1.2.1 ?_
                          refine lv_ineg hx hb dX9_tries_217 ?_
                          refine top_i (y := (max2 (ri9 - 1) (-S.2.1.2.1))) (max2_t (Int32.not_le.mp c_207)) ?_
                          refine lv_goto (tgt := 225) hx hb dX9_tries_218 (by decide) ?_
                          refine lv_istore (lv' := [(6, .int (max2 (ri9 - 1) (-S.2.1.2.1))), (7, .int (bI (downF (Bk S.1) c8 (-ri9).toNatClampNeg (nI jj9)).2)), (9, .int (nI k8)), (8, .int sp9), (5, .int s8), (0, .ref mo), (1, .int (nI ac)), (2, .int (nI ar)), (3, .int xd), (4, .int (nI ak))]) hx hb dX9_tries_225 hl (by decide) rfl (fun ls hl => ?_)
                          refine lv_goto (tgt := 57) hx hb dX9_tries_227 (by decide) ?_
                          refine ih_57 (nn9 - 1) j2 oo9 c8 (tt9 + 1) s8 (max2 (ri9 - 1) (-S.2.1.2.1)) m8 ((downF (Bk S.1) c8 (-ri9).toNatClampNeg (nI jj9)).2) (by omega) (hb2) (hj2) ?_ _ _ (hP) (hD) hS _ (lv_sub hl [4, 0, 1, 5, 6, 7, 8, 9] rfl)
                          · rw [hm2, hs2]
                            cases hz : (downF (Bk S.1) c8 (-ri9).toNatClampNeg (nI jj9)).2 with
                            | false => exact Or.inl ⟨rfl, hdf hz⟩
                            | true => exact Or.inr ⟨rfl, hdt hz⟩
                      · refine lv_aload_n hx hb dX9_tries_177 rfl (lv_at hl 5 rfl) ?_
                        refine va_get (D := D) (ci := 9) (v := .ref zs) (C := RX9) (T := TX9) (N := 26) hx hb hts hiX9 hown hK hP 0 rfl rfl 0 (by decide) (hts (.fieldLink RX9 7 "LedgeLeapsModel" "s" "[I") (List.mem_of_getElem? (i := 6) rfl)) (fun _ h9 => h9) rfl dX9_tries_178 ?_
                        refine lv_bipush (v := 22) hx hb dX9_tries_181 (by decide) ?_
                        refine va_iald hx hb hK hP 1 0 rfl rfl (show ¬ ((22 : Int32) < 0 ∨ 28 ≤ (22 : Int32).toNatClampNeg) by decide) dX9_tries_183 ?_
                        refine top_i (y := (gs 22)) (rfl) ?_
                        refine top_i (y := S.2.1.2.2) hS0.2.1.2.2 ?_
                        refine lv_goto (tgt := 190) hx hb dX9_tries_184 (by decide) ?_
                        refine cV_i CF hK hN hA hS (cut_of 2 [0, 1] hP hD rfl rfl rfl) (n_goDown l D cI cZ cW cJ A (X) mo zs zv zl zk zt zg zi zw zo ze zd vn vl vh vg c8 (nI jj9) (tt9 + 1) (nI oo9) vp va vb vd vq m8 vz gs S S.2.1.2.2 hS0 (by rw [e3, nI_clamp (by omega)]; omega)) (cwV 1 hts gX9_tries_X9_goDown rfl rfl rfl (by decide +kernel) ⟨Nat.le_of_ble_eq_true rfl, Nat.le_of_ble_eq_true rfl⟩) (As := [.int S.2.1.2.2]) (rest := []) (ci := 9) (q0 := 0) rfl rfl rfl hl.1 rfl (Nat.le_of_ble_eq_true rfl) dX9_tries_190 ⟨Nat.le_of_ble_eq_true rfl, Nat.le_of_ble_eq_true rfl⟩ (fun r_190 u_190 H locs hq hP hD hS => ?_)
                        have hq_190 : r_190 = bI (downF (Bk S.1) c8 S.2.1.2.2.toNatClampNeg (nI jj9)).2 ∧ u_190 = (downF (Bk S.1) c8 S.2.1.2.2.toNatClampNeg (nI jj9)).1 := hq
                        have hr_190 : r_190 = bI (downF (Bk S.1) c8 S.2.1.2.2.toNatClampNeg (nI jj9)).2 := hq_190.1
                        subst hr_190
                        have hP : va_P D vwCl (oX9 mo zs zv vn zl zk zt vl vh zg zi zw vg zo ze c8 u_190 (tt9 + 1) (nI oo9) (bI m8) vp va vb vd vq zd vz :: aI cI zs 28 gs :: X) H := pm_P hP 2 [0, 1] rfl
                        have hD : va_D A (oX9 mo zs zv vn zl zk zt vl vh zg zi zw vg zo ze c8 u_190 (tt9 + 1) (nI oo9) (bI m8) vp va vb vd vq zd vz :: aI cI zs 28 gs :: X) := pm_D hD 2 [0, 1] rfl rfl rfl
                        have hst9 : S.2.1.2.2.toNatClampNeg = stepsF (me9 || h2) ri9 S.2.1.2.2 := by rw [← hm2, bt_c c_161]; exact steps_met (Int32.not_le.mp c_174)
                        obtain ⟨hn1, j2, hd1, hb2, hj2, hdf, hdt⟩ := hF.down hBO hnf e2 hns e3 (Int32.not_lt.mpr c_137) hbk hjo hsd
                        rw [← hst9] at hd1 hdf hdt
                        have hu9 : u_190 = nI j2 := hq_190.2.trans hd1
                        rw [hu9] at hP hD
                        have hP : va_P D vwCl (oX9 mo zs zv vn zl zk zt vl vh zg zi zw vg zo ze c8 (nI j2) (tt9 + 1) (nI oo9) (bI m8) vp va vb vd vq zd vz :: aI cI zs 28 gs :: X) H := hP
                        have hD : va_D A (oX9 mo zs zv vn zl zk zt vl vh zg zi zw vg zo ze c8 (nI j2) (tt9 + 1) (nI oo9) (bI m8) vp va vb vd vq zd vz :: aI cI zs 28 gs :: X) := hD
                        refine lv_istore (lv' := [(7, .int (bI (downF (Bk S.1) c8 S.2.1.2.2.toNatClampNeg (nI jj9)).2)), (9, .int (nI k8)), (8, .int sp9), (5, .int s8), (6, .int ri9), (0, .ref mo), (1, .int (nI ac)), (2, .int (nI ar)), (3, .int xd), (4, .int (nI ak))]) hx hb dX9_tries_193 hl (by decide) rfl (fun ls hl => ?_)
                        refine lv_iload hx hb dX9_tries_195 (lv_at hl 4 rfl) ?_
                        refine lv_iconst (v := 1) hx hb dX9_tries_197 (by decide) ?_
                        refine lv_isub hx hb dX9_tries_198 ?_
                        refine lv_aload_n hx hb dX9_tries_199 rfl (lv_at hl 5 rfl) ?_
                        refine va_get (D := D) (ci := 9) (v := .ref zs) (C := RX9) (T := TX9) (N := 26) hx hb hts hiX9 hown hK hP 0 rfl rfl 0 (by decide) (hts (.fieldLink RX9 7 "LedgeLeapsModel" "s" "[I") (List.mem_of_getElem? (i := 6) rfl)) (fun _ h9 => h9) rfl dX9_tries_200 ?_
                        refine lv_bipush (v := 21) hx hb dX9_tries_203 (by decide) ?_
                        refine va_iald hx hb hK hP 1 0 rfl rfl (show ¬ ((21 : Int32) < 0 ∨ 28 ≤ (21 : Int32).toNatClampNeg) by decide) dX9_tries_205 ?_
                        refine top_i (y := (gs 21)) (rfl) ?_
                        refine top_i (y := S.2.1.2.1) hS0.2.1.2.1 ?_
                        refine lv_ineg hx hb dX9_tries_206 ?_
                        refine lv_icmp_ge (tgt := 221) hx hb dX9_tries_207 (by decide) (fun c_207 => ?_) (fun c_207 => ?_)
                        · refine lv_iload hx hb dX9_tries_221 (lv_at hl 4 rfl) ?_
                          refine lv_iconst (v := 1) hx hb dX9_tries_223 (by decide) ?_
                          refine lv_isub hx hb dX9_tries_224 ?_
                          refine top_i (y := (max2 (ri9 - 1) (-S.2.1.2.1))) (max2_f (Int32.not_lt.mpr c_207)) ?_
                          refine lv_istore (lv' := [(6, .int (max2 (ri9 - 1) (-S.2.1.2.1))), (7, .int (bI (downF (Bk S.1) c8 S.2.1.2.2.toNatClampNeg (nI jj9)).2)), (9, .int (nI k8)), (8, .int sp9), (5, .int s8), (0, .ref mo), (1, .int (nI ac)), (2, .int (nI ar)), (3, .int xd), (4, .int (nI ak))]) hx hb dX9_tries_225 hl (by decide) rfl (fun ls hl => ?_)
                          refine lv_goto (tgt := 57) hx hb dX9_tries_227 (by decide) ?_
                          refine ih_57 (nn9 - 1) j2 oo9 c8 (tt9 + 1) s8 (max2 (ri9 - 1) (-S.2.1.2.1)) m8 ((downF (Bk S.1) c8 S.2.1.2.2.toNatClampNeg (nI jj9)).2) (by omega) (hb2) (hj2) ?_ _ _ (hP) (hD) hS _ (lv_sub hl [4, 0, 1, 5, 6, 7, 8, 9] rfl)
                          · rw [hm2, hs2]
                            cases hz : (downF (Bk S.1) c8 S.2.1.2.2.toNatClampNeg (nI jj9)).2 with
                            | false => exact Or.inl ⟨rfl, hdf hz⟩
                            | true => exact Or.inr ⟨rfl, hdt hz⟩
                        · refine lv_aload_n hx hb dX9_tries_210 rfl (lv_at hl 5 rfl) ?_
                          refine va_get (D := D) (ci := 9) (v := .ref zs) (C := RX9) (T := TX9) (N := 26) hx hb hts hiX9 hown hK hP 0 rfl rfl 0 (by decide) (hts (.fieldLink RX9 7 "LedgeLeapsModel" "s" "[I") (List.mem_of_getElem? (i := 6) rfl)) (fun _ h9 => h9) rfl dX9_tries_211 ?_
                          refine lv_bipush (v := 21) hx hb dX9_tries_214 (by decide) ?_
                          refine va_iald hx hb hK hP 1 0 rfl rfl (show ¬ ((21 : Int32) < 0 ∨ 28 ≤ (21 : Int32).toNatClampNeg) by decide) dX9_tries_216 ?_
                          refine top_i (y := (gs 21)) (rfl) ?_
                          refine top_i (y := S.2.1.2.1) hS0.2.1.2.1 ?_
                          refine lv_ineg hx hb dX9_tries_217 ?_
                          refine top_i (y := (max2 (ri9 - 1) (-S.2.1.2.1))) (max2_t (Int32.not_le.mp c_207)) ?_
                          refine lv_goto (tgt := 225) hx hb dX9_tries_218 (by decide) ?_
                          refine lv_istore (lv' := [(6, .int (max2 (ri9 - 1) (-S.2.1.2.1))), (7, .int (bI (downF (Bk S.1) c8 S.2.1.2.2.toNatClampNeg (nI jj9)).2)), (9, .int (nI k8)), (8, .int sp9), (5, .int s8), (0, .ref mo), (1, .int (nI ac)), (2, .int (nI ar)), (3, .int xd), (4, .int (nI ak))]) hx hb dX9_tries_225 hl (by decide) rfl (fun ls hl => ?_)
                          refine lv_goto (tgt := 57) hx hb dX9_tries_227 (by decide) ?_
                          refine ih_57 (nn9 - 1) j2 oo9 c8 (tt9 + 1) s8 (max2 (ri9 - 1) (-S.2.1.2.1)) m8 ((downF (Bk S.1) c8 S.2.1.2.2.toNatClampNeg (nI jj9)).2) (by omega) (hb2) (hj2) ?_ _ _ (hP) (hD) hS _ (lv_sub hl [4, 0, 1, 5, 6, 7, 8, 9] rfl)
                          · rw [hm2, hs2]
                            cases hz : (downF (Bk S.1) c8 S.2.1.2.2.toNatClampNeg (nI jj9)).2 with
                            | false => exact Or.inl ⟨rfl, hdf hz⟩
                            | true => exact Or.inr ⟨rfl, hdt hz⟩
                · refine lv_aload_n hx hb dX9_tries_140 rfl (lv_at hl 5 rfl) ?_
                  refine lv_iload hx hb dX9_tries_141 (lv_at hl 3 rfl) ?_
                  refine cV_i CF hK hN hA hS (cut_of 2 [0, 1] hP hD rfl rfl rfl) (n_goUp l D cI cZ cW cJ A (X) mo zs zv zl zk zt zg zi zw zo ze zd vn vl vh vg c8 (tt9 + 1) vp va vb vd vq m8 vz gs S jj9 oo9 ri9 hS0 hjo.1 (by omega) (by rw [hF.1]; exact (ri_small _ hF.2.1).1)) (cwV 1 hts gX9_tries_X9_goUp rfl rfl rfl (by decide +kernel) ⟨Nat.le_of_ble_eq_true rfl, Nat.le_of_ble_eq_true rfl⟩) (As := [.int ri9]) (rest := []) (ci := 9) (q0 := 0) rfl rfl rfl hl.1 rfl (Nat.le_of_ble_eq_true rfl) dX9_tries_143 ⟨Nat.le_of_ble_eq_true rfl, Nat.le_of_ble_eq_true rfl⟩ (fun r_143 u_143 H locs hq hP hD hS => ?_)
                  have hq_143 : r_143 = (if (upF (Bk S.1) c8 ri9.toNatClampNeg (nI jj9)).2 = true then 0 else ri9) ∧ nI u_143.1 = (upF (Bk S.1) c8 ri9.toNatClampNeg (nI jj9)).1 ∧ u_143.1 ≤ jj9 + ri9.toNatClampNeg ∧ u_143.2 = max oo9 u_143.1 := hq
                  have hP : va_P D vwCl (oX9 mo zs zv vn zl zk zt vl vh zg zi zw vg zo ze c8 (nI u_143.1) (tt9 + 1) (nI u_143.2) (bI m8) vp va vb vd vq zd vz :: aI cI zs 28 gs :: X) H := pm_P hP 2 [0, 1] rfl
                  have hD : va_D A (oX9 mo zs zv vn zl zk zt vl vh zg zi zw vg zo ze c8 (nI u_143.1) (tt9 + 1) (nI u_143.2) (bI m8) vp va vb vd vq zd vz :: aI cI zs 28 gs :: X) := pm_D hD 2 [0, 1] rfl rfl rfl
                  obtain ⟨hr143, hu1, hu2, hu3⟩ := hq_143
                  obtain ⟨hb2, hj2, hn1, a2, hF2⟩ := hF.up hBO hnf e2 (Int32.not_le.mp c_137) hbk hjo hsd hu1 hu2 hu3
                  rw [← hr143] at hF2
                  refine lv_istore (lv' := [(6, .int r_143), (9, .int (nI k8)), (8, .int sp9), (5, .int s8), (7, .int (bI en9)), (0, .ref mo), (1, .int (nI ac)), (2, .int (nI ar)), (3, .int xd), (4, .int (nI ak))]) hx hb dX9_tries_146 hl (by decide) rfl (fun ls hl => ?_)
                  refine lv_goto (tgt := 195) hx hb dX9_tries_148 (by decide) ?_
                  refine lv_iload hx hb dX9_tries_195 (lv_at hl 0 rfl) ?_
                  refine lv_iconst (v := 1) hx hb dX9_tries_197 (by decide) ?_
                  refine lv_isub hx hb dX9_tries_198 ?_
                  refine lv_aload_n hx hb dX9_tries_199 rfl (lv_at hl 5 rfl) ?_
                  refine va_get (D := D) (ci := 9) (v := .ref zs) (C := RX9) (T := TX9) (N := 26) hx hb hts hiX9 hown hK hP 0 rfl rfl 0 (by decide) (hts (.fieldLink RX9 7 "LedgeLeapsModel" "s" "[I") (List.mem_of_getElem? (i := 6) rfl)) (fun _ h9 => h9) rfl dX9_tries_200 ?_
                  refine lv_bipush (v := 21) hx hb dX9_tries_203 (by decide) ?_
                  refine va_iald hx hb hK hP 1 0 rfl rfl (show ¬ ((21 : Int32) < 0 ∨ 28 ≤ (21 : Int32).toNatClampNeg) by decide) dX9_tries_205 ?_
                  refine top_i (y := (gs 21)) (rfl) ?_
                  refine top_i (y := S.2.1.2.1) hS0.2.1.2.1 ?_
                  refine lv_ineg hx hb dX9_tries_206 ?_
                  refine lv_icmp_ge (tgt := 221) hx hb dX9_tries_207 (by decide) (fun c_207 => ?_) (fun c_207 => ?_)
                  · refine lv_iload hx hb dX9_tries_221 (lv_at hl 0 rfl) ?_
                    refine lv_iconst (v := 1) hx hb dX9_tries_223 (by decide) ?_
                    refine lv_isub hx hb dX9_tries_224 ?_
                    refine top_i (y := (max2 (r_143 - 1) (-S.2.1.2.1))) (max2_f (Int32.not_lt.mpr c_207)) ?_
                    refine lv_istore (lv' := [(6, .int (max2 (r_143 - 1) (-S.2.1.2.1))), (9, .int (nI k8)), (8, .int sp9), (5, .int s8), (7, .int (bI en9)), (0, .ref mo), (1, .int (nI ac)), (2, .int (nI ar)), (3, .int xd), (4, .int (nI ak))]) hx hb dX9_tries_225 hl (by decide) rfl (fun ls hl => ?_)
                    refine lv_goto (tgt := 57) hx hb dX9_tries_227 (by decide) ?_
                    exact ih_57 (nn9 - 1) u_143.1 u_143.2 c8 (tt9 + 1) s8 (max2 (r_143 - 1) (-S.2.1.2.1)) m8 en9 (by omega) (hb2) (hj2) (Or.inl ⟨hen, a2, by rw [hm2, hs2]; exact hF2⟩) _ _ (hP) (hD) hS _ (lv_sub hl [3, 0, 4, 5, 6, 7, 8, 9] rfl)
                  · refine lv_aload_n hx hb dX9_tries_210 rfl (lv_at hl 5 rfl) ?_
                    refine va_get (D := D) (ci := 9) (v := .ref zs) (C := RX9) (T := TX9) (N := 26) hx hb hts hiX9 hown hK hP 0 rfl rfl 0 (by decide) (hts (.fieldLink RX9 7 "LedgeLeapsModel" "s" "[I") (List.mem_of_getElem? (i := 6) rfl)) (fun _ h9 => h9) rfl dX9_tries_211 ?_
                    refine lv_bipush (v := 21) hx hb dX9_tries_214 (by decide) ?_
                    refine va_iald hx hb hK hP 1 0 rfl rfl (show ¬ ((21 : Int32) < 0 ∨ 28 ≤ (21 : Int32).toNatClampNeg) by decide) dX9_tries_216 ?_
                    refine top_i (y := (gs 21)) (rfl) ?_
                    refine top_i (y := S.2.1.2.1) hS0.2.1.2.1 ?_
                    refine lv_ineg hx hb dX9_tries_217 ?_
                    refine top_i (y := (max2 (r_143 - 1) (-S.2.1.2.1))) (max2_t (Int32.not_le.mp c_207)) ?_
                    refine lv_goto (tgt := 225) hx hb dX9_tries_218 (by decide) ?_
                    refine lv_istore (lv' := [(6, .int (max2 (r_143 - 1) (-S.2.1.2.1))), (9, .int (nI k8)), (8, .int sp9), (5, .int s8), (7, .int (bI en9)), (0, .ref mo), (1, .int (nI ac)), (2, .int (nI ar)), (3, .int xd), (4, .int (nI ak))]) hx hb dX9_tries_225 hl (by decide) rfl (fun ls hl => ?_)
                    refine lv_goto (tgt := 57) hx hb dX9_tries_227 (by decide) ?_
                    exact ih_57 (nn9 - 1) u_143.1 u_143.2 c8 (tt9 + 1) s8 (max2 (r_143 - 1) (-S.2.1.2.1)) m8 en9 (by omega) (hb2) (hj2) (Or.inl ⟨hen, a2, by rw [hm2, hs2]; exact hF2⟩) _ _ (hP) (hD) hS _ (lv_sub hl [3, 0, 4, 5, 6, 7, 8, 9] rfl)
              · refine lv_iload hx hb dX9_tries_86 (lv_at hl 2 rfl) ?_
                refine lv_if_le (tgt := 135) hx hb dX9_tries_88 (by decide) (fun c_88 => ?_) (fun c_88 => ?_)
                · obtain ⟨h2, hsd, hm2, hs2⟩ : ∃ h2, sideF (Bk S.1) xd (nI jj9) sp9.toNatClampNeg cc9 = (c8, h2) ∧ m8 = (me9 || h2) ∧ s8 = (if h2 = true then 0 else sp9) := by
                    rcases hD8 with ⟨e8, e8m, e8s⟩ | ⟨e8, e8m, e8s⟩
                    · exact ⟨false, by rw [← e8s, show sp9.toNatClampNeg - k8 = 0 from (by have h : ¬ 0 < sp9.toNatClampNeg := fun q => Int32.not_le.mpr ((lt_cl (x := sp9) (i := 0) (by decide)).mpr q) (by rw [e8] at c_88; exact c_88); omega)]; rfl, by rw [e8m, Bool.or_false], e8⟩
                    · exact ⟨true, e8s, by rw [e8m, Bool.or_true], e8⟩
                  refine lv_iload hx hb dX9_tries_135 (lv_at hl 3 rfl) ?_
                  refine lv_if_le (tgt := 151) hx hb dX9_tries_137 (by decide) (fun c_137 => ?_) (fun c_137 => ?_)
                  · refine lv_iload hx hb dX9_tries_151 (lv_at hl 3 rfl) ?_
                    refine lv_if_ge (tgt := 195) hx hb dX9_tries_153 (by decide) (fun c_153 => ?_) (fun c_153 => ?_)
                    · obtain ⟨hn1, j2, hd1, hb2, hj2, hdf, -⟩ := hF.down hBO hnf e2 hns e3 (Int32.not_lt.mpr c_137) hbk hjo hsd
                      have hz9 : stepsF (me9 || h2) ri9 S.2.1.2.2 = 0 := by have q1 := Int32.not_lt.mpr c_137; have q2 := c_153; rw [hF.1] at q1 q2 ⊢; rw [e3]; exact steps_0 hF.2.1 hns q1 q2
                      rw [hz9] at hd1 hdf
                      have hd1 : nI jj9 = nI j2 := hd1
                      rw [hd1] at hP hD
                      have hP : va_P D vwCl (oX9 mo zs zv vn zl zk zt vl vh zg zi zw vg zo ze c8 (nI j2) (tt9 + 1) (nI oo9) (bI m8) vp va vb vd vq zd vz :: aI cI zs 28 gs :: X) H := hP
                      have hD : va_D A (oX9 mo zs zv vn zl zk zt vl vh zg zi zw vg zo ze c8 (nI j2) (tt9 + 1) (nI oo9) (bI m8) vp va vb vd vq zd vz :: aI cI zs 28 gs :: X) := hD
                      refine lv_iload hx hb dX9_tries_195 (lv_at hl 3 rfl) ?_
                      refine lv_iconst (v := 1) hx hb dX9_tries_197 (by decide) ?_
                      refine lv_isub hx hb dX9_tries_198 ?_
                      refine lv_aload_n hx hb dX9_tries_199 rfl (lv_at hl 5 rfl) ?_
                      refine va_get (D := D) (ci := 9) (v := .ref zs) (C := RX9) (T := TX9) (N := 26) hx hb hts hiX9 hown hK hP 0 rfl rfl 0 (by decide) (hts (.fieldLink RX9 7 "LedgeLeapsModel" "s" "[I") (List.mem_of_getElem? (i := 6) rfl)) (fun _ h9 => h9) rfl dX9_tries_200 ?_
                      refine lv_bipush (v := 21) hx hb dX9_tries_203 (by decide) ?_
                      refine va_iald hx hb hK hP 1 0 rfl rfl (show ¬ ((21 : Int32) < 0 ∨ 28 ≤ (21 : Int32).toNatClampNeg) by decide) dX9_tries_205 ?_
                      refine top_i (y := (gs 21)) (rfl) ?_
                      refine top_i (y := S.2.1.2.1) hS0.2.1.2.1 ?_
                      refine lv_ineg hx hb dX9_tries_206 ?_
                      refine lv_icmp_ge (tgt := 221) hx hb dX9_tries_207 (by decide) (fun c_207 => ?_) (fun c_207 => ?_)
                      · refine lv_iload hx hb dX9_tries_221 (lv_at hl 3 rfl) ?_
                        refine lv_iconst (v := 1) hx hb dX9_tries_223 (by decide) ?_
                        refine lv_isub hx hb dX9_tries_224 ?_
                        refine top_i (y := (max2 (ri9 - 1) (-S.2.1.2.1))) (max2_f (Int32.not_lt.mpr c_207)) ?_
                        refine lv_istore (lv' := [(6, .int (max2 (ri9 - 1) (-S.2.1.2.1))), (9, .int (nI k8)), (8, .int sp9), (5, .int s8), (7, .int (bI en9)), (0, .ref mo), (1, .int (nI ac)), (2, .int (nI ar)), (3, .int xd), (4, .int (nI ak))]) hx hb dX9_tries_225 hl (by decide) rfl (fun ls hl => ?_)
                        refine lv_goto (tgt := 57) hx hb dX9_tries_227 (by decide) ?_
                        exact ih_57 (nn9 - 1) j2 oo9 c8 (tt9 + 1) s8 (max2 (ri9 - 1) (-S.2.1.2.1)) m8 en9 (by omega) (hb2) (hj2) (Or.inl ⟨hen, by rw [hm2, hs2]; exact hdf rfl⟩) _ _ (hP) (hD) hS _ (lv_sub hl [3, 0, 4, 5, 6, 7, 8, 9] rfl)
                      · refine lv_aload_n hx hb dX9_tries_210 rfl (lv_at hl 5 rfl) ?_
                        refine va_get (D := D) (ci := 9) (v := .ref zs) (C := RX9) (T := TX9) (N := 26) hx hb hts hiX9 hown hK hP 0 rfl rfl 0 (by decide) (hts (.fieldLink RX9 7 "LedgeLeapsModel" "s" "[I") (List.mem_of_getElem? (i := 6) rfl)) (fun _ h9 => h9) rfl dX9_tries_211 ?_
                        refine lv_bipush (v := 21) hx hb dX9_tries_214 (by decide) ?_
                        refine va_iald hx hb hK hP 1 0 rfl rfl (show ¬ ((21 : Int32) < 0 ∨ 28 ≤ (21 : Int32).toNatClampNeg) by decide) dX9_tries_216 ?_
                        refine top_i (y := (gs 21)) (rfl) ?_
                        refine top_i (y := S.2.1.2.1) hS0.2.1.2.1 ?_
                        refine lv_ineg hx hb dX9_tries_217 ?_
                        refine top_i (y := (max2 (ri9 - 1) (-S.2.1.2.1))) (max2_t (Int32.not_le.mp c_207)) ?_
                        refine lv_goto (tgt := 225) hx hb dX9_tries_218 (by decide) ?_
                        refine lv_istore (lv' := [(6, .int (max2 (ri9 - 1) (-S.2.1.2.1))), (9, .int (nI k8)), (8, .int sp9), (5, .int s8), (7, .int (bI en9)), (0, .ref mo), (1, .int (nI ac)), (2, .int (nI ar)), (3, .int xd), (4, .int (nI ak))]) hx hb dX9_tries_225 hl (by decide) rfl (fun ls hl => ?_)
                        refine lv_goto (tgt := 57) hx hb dX9_tries_227 (by decide) ?_
                        exact ih_57 (nn9 - 1) j2 oo9 c8 (tt9 + 1) s8 (max2 (ri9 - 1) (-S.2.1.2.1)) m8 en9 (by omega) (hb2) (hj2) (Or.inl ⟨hen, by rw [hm2, hs2]; exact hdf rfl⟩) _ _ (hP) (hD) hS _ (lv_sub hl [3, 0, 4, 5, 6, 7, 8, 9] rfl)
                    · refine lv_aload_n hx hb dX9_tries_156 rfl (lv_at hl 5 rfl) ?_
                      refine lv_aload_n hx hb dX9_tries_157 rfl (lv_at hl 5 rfl) ?_
                      refine va_get (D := D) (ci := 9) (v := .int (bI m8)) (C := RX9) (T := TX9) (N := 26) hx hb hts hiX9 hown hK hP 0 rfl rfl 18 (by decide) (hts (.fieldLink RX9 92 "LedgeLeapsModel" "isMet" "Z") (List.mem_of_getElem? (i := 5) rfl)) (fun _ h9 => h9) rfl dX9_tries_158 ?_
                      refine lv_if_eq (tgt := 187) hx hb dX9_tries_161 (by decide) (fun c_161 => ?_) (fun c_161 => ?_)
                      · refine lv_iload hx hb dX9_tries_187 (lv_at hl 3 rfl) ?_
                        refine lv_ineg hx hb dX9_tries_189 ?_
                        refine cV_i CF hK hN hA hS (cut_of 2 [0, 1] hP hD rfl rfl rfl) (n_goDown l D cI cZ cW cJ A (X) mo zs zv zl zk zt zg zi zw zo ze zd vn vl vh vg c8 (nI jj9) (tt9 + 1) (nI oo9) vp va vb vd vq m8 vz gs S (-ri9) hS0 (by rw [hF.1]; exact (ri_small _ hF.2.1).2)) (cwV 1 hts gX9_tries_X9_goDown rfl rfl rfl (by decide +kernel) ⟨Nat.le_of_ble_eq_true rfl, Nat.le_of_ble_eq_true rfl⟩) (As := [.int (-ri9)]) (rest := []) (ci := 9) (q0 := 0) rfl rfl rfl hl.1 rfl (Nat.le_of_ble_eq_true rfl) dX9_tries_190 ⟨Nat.le_of_ble_eq_true rfl, Nat.le_of_ble_eq_true rfl⟩ (fun r_190 u_190 H locs hq hP hD hS => ?_)
                        have hq_190 : r_190 = bI (downF (Bk S.1) c8 (-ri9).toNatClampNeg (nI jj9)).2 ∧ u_190 = (downF (Bk S.1) c8 (-ri9).toNatClampNeg (nI jj9)).1 := hq
                        have hr_190 : r_190 = bI (downF (Bk S.1) c8 (-ri9).toNatClampNeg (nI jj9)).2 := hq_190.1
                        subst hr_190
                        have hP : va_P D vwCl (oX9 mo zs zv vn zl zk zt vl vh zg zi zw vg zo ze c8 u_190 (tt9 + 1) (nI oo9) (bI m8) vp va vb vd vq zd vz :: aI cI zs 28 gs :: X) H := pm_P hP 2 [0, 1] rfl
                        have hD : va_D A (oX9 mo zs zv vn zl zk zt vl vh zg zi zw vg zo ze c8 u_190 (tt9 + 1) (nI oo9) (bI m8) vp va vb vd vq zd vz :: aI cI zs 28 gs :: X) := pm_D hD 2 [0, 1] rfl rfl rfl
                        have hst9 : (-ri9).toNatClampNeg = stepsF (me9 || h2) ri9 S.2.1.2.2 := by rw [← hm2, bf_c c_161]; exact steps_free
                        obtain ⟨hn1, j2, hd1, hb2, hj2, hdf, hdt⟩ := hF.down hBO hnf e2 hns e3 (Int32.not_lt.mpr c_137) hbk hjo hsd
                        rw [← hst9] at hd1 hdf hdt
                        have hu9 : u_190 = nI j2 := hq_190.2.trans hd1
                        rw [hu9] at hP hD
                        have hP : va_P D vwCl (oX9 mo zs zv vn zl zk zt vl vh zg zi zw vg zo ze c8 (nI j2) (tt9 + 1) (nI oo9) (bI m8) vp va vb vd vq zd vz :: aI cI zs 28 gs :: X) H := hP
                        have hD : va_D A (oX9 mo zs zv vn zl zk zt vl vh zg zi zw vg zo ze c8 (nI j2) (tt9 + 1) (nI oo9) (bI m8) vp va vb vd vq zd vz :: aI cI zs 28 gs :: X) := hD
                        refine lv_istore (lv' := [(7, .int (bI (downF (Bk S.1) c8 (-ri9).toNatClampNeg (nI jj9)).2)), (9, .int (nI k8)), (8, .int sp9), (5, .int s8), (6, .int ri9), (0, .ref mo), (1, .int (nI ac)), (2, .int (nI ar)), (3, .int xd), (4, .int (nI ak))]) hx hb dX9_tries_193 hl (by decide) rfl (fun ls hl => ?_)
                        refine lv_iload hx hb dX9_tries_195 (lv_at hl 4 rfl) ?_
                        refine lv_iconst (v := 1) hx hb dX9_tries_197 (by decide) ?_
                        refine lv_isub hx hb dX9_tries_198 ?_
                        refine lv_aload_n hx hb dX9_tries_199 rfl (lv_at hl 5 rfl) ?_
                        refine va_get (D := D) (ci := 9) (v := .ref zs) (C := RX9) (T := TX9) (N := 26) hx hb hts hiX9 hown hK hP 0 rfl rfl 0 (by decide) (hts (.fieldLink RX9 7 "LedgeLeapsModel" "s" "[I") (List.mem_of_getElem? (i := 6) rfl)) (fun _ h9 => h9) rfl dX9_tries_200 ?_
                        refine lv_bipush (v := 21) hx hb dX9_tries_203 (by decide) ?_
                        refine va_iald hx hb hK hP 1 0 rfl rfl (show ¬ ((21 : Int32) < 0 ∨ 28 ≤ (21 : Int32).toNatClampNeg) by decide) dX9_tries_205 ?_
                        refine top_i (y := (gs 21)) (rfl) ?_
                        refine top_i (y := S.2.1.2.1) hS0.2.1.2.1 ?_
                        refine lv_ineg hx hb dX9_tries_206 ?_
                        refine lv_icmp_ge (tgt := 221) hx hb dX9_tries_207 (by decide) (fun c_207 => ?_) (fun c_207 => ?_)
                        · refine lv_iload hx hb dX9_tries_221 (lv_at hl 4 rfl) ?_
                          refine lv_iconst (v := 1) hx hb dX9_tries_223 (by decide) ?_
                          refine lv_isub hx hb dX9_tries_224 ?_
                          refine top_i (y := (max2 (ri9 - 1) (-S.2.1.2.1))) (max2_f (Int32.not_lt.mpr c_207)) ?_
                          refine lv_istore (lv' := [(6, .int (max2 (ri9 - 1) (-S.2.1.2.1))), (7, .int (bI (downF (Bk S.1) c8 (-ri9).toNatClampNeg (nI jj9)).2)), (9, .int (nI k8)), (8, .int sp9), (5, .int s8), (0, .ref mo), (1, .int (nI ac)), (2, .int (nI ar)), (3, .int xd), (4, .int (nI ak))]) hx hb dX9_tries_225 hl (by decide) rfl (fun ls hl => ?_)
                          refine lv_goto (tgt := 57) hx hb dX9_tries_227 (by decide) ?_
                          refine ih_57 (nn9 - 1) j2 oo9 c8 (tt9 + 1) s8 (max2 (ri9 - 1) (-S.2.1.2.1)) m8 ((downF (Bk S.1) c8 (-ri9).toNatClampNeg (nI jj9)).2) (by omega) (hb2) (hj2) ?_ _ _ (hP) (hD) hS _ (lv_sub hl [4, 0, 1, 5, 6, 7, 8, 9] rfl)
                          · rw [hm2, hs2]
                            cases hz : (downF (Bk S.1) c8 (-ri9).toNatClampNeg (nI jj9)).2 with
                            | false => exact Or.inl ⟨rfl, hdf hz⟩
                            | true => exact Or.inr ⟨rfl, hdt hz⟩
                        · refine lv_aload_n hx hb dX9_tries_210 rfl (lv_at hl 5 rfl) ?_
                          refine va_get (D := D) (ci := 9) (v := .ref zs) (C := RX9) (T := TX9) (N := 26) hx hb hts hiX9 hown hK hP 0 rfl rfl 0 (by decide) (hts (.fieldLink RX9 7 "LedgeLeapsModel" "s" "[I") (List.mem_of_getElem? (i := 6) rfl)) (fun _ h9 => h9) rfl dX9_tries_211 ?_
                          refine lv_bipush (v := 21) hx hb dX9_tries_214 (by decide) ?_
                          refine va_iald hx hb hK hP 1 0 rfl rfl (show ¬ ((21 : Int32) < 0 ∨ 28 ≤ (21 : Int32).toNatClampNeg) by decide) dX9_tries_216 ?_
                          refine top_i (y := (gs 21)) (rfl) ?_
                          refine top_i (y := S.2.1.2.1) hS0.2.1.2.1 ?_
                          refine lv_ineg hx hb dX9_tries_217 ?_
                          refine top_i (y := (max2 (ri9 - 1) (-S.2.1.2.1))) (max2_t (Int32.not_le.mp c_207)) ?_
                          refine lv_goto (tgt := 225) hx hb dX9_tries_218 (by decide) ?_
                          refine lv_istore (lv' := [(6, .int (max2 (ri9 - 1) (-S.2.1.2.1))), (7, .int (bI (downF (Bk S.1) c8 (-ri9).toNatClampNeg (nI jj9)).2)), (9, .int (nI k8)), (8, .int sp9), (5, .int s8), (0, .ref mo), (1, .int (nI ac)), (2, .int (nI ar)), (3, .int xd), (4, .int (nI ak))]) hx hb dX9_tries_225 hl (by decide) rfl (fun ls hl => ?_)
                          refine lv_goto (tgt := 57) hx hb dX9_tries_227 (by decide) ?_
                          refine ih_57 (nn9 - 1) j2 oo9 c8 (tt9 + 1) s8 (max2 (ri9 - 1) (-S.2.1.2.1)) m8 ((downF (Bk S.1) c8 (-ri9).toNatClampNeg (nI jj9)).2) (by omega) (hb2) (hj2) ?_ _ _ (hP) (hD) hS _ (lv_sub hl [4, 0, 1, 5, 6, 7, 8, 9] rfl)
                          · rw [hm2, hs2]
                            cases hz : (downF (Bk S.1) c8 (-ri9).toNatClampNeg (nI jj9)).2 with
                            | false => exact Or.inl ⟨rfl, hdf hz⟩
                            | true => exact Or.inr ⟨rfl, hdt hz⟩
                      · refine lv_iload hx hb dX9_tries_164 (lv_at hl 3 rfl) ?_
                        refine lv_ineg hx hb dX9_tries_166 ?_
                        refine lv_aload_n hx hb dX9_tries_167 rfl (lv_at hl 5 rfl) ?_
                        refine va_get (D := D) (ci := 9) (v := .ref zs) (C := RX9) (T := TX9) (N := 26) hx hb hts hiX9 hown hK hP 0 rfl rfl 0 (by decide) (hts (.fieldLink RX9 7 "LedgeLeapsModel" "s" "[I") (List.mem_of_getElem? (i := 6) rfl)) (fun _ h9 => h9) rfl dX9_tries_168 ?_
                        refine lv_bipush (v := 22) hx hb dX9_tries_171 (by decide) ?_
                        refine va_iald hx hb hK hP 1 0 rfl rfl (show ¬ ((22 : Int32) < 0 ∨ 28 ≤ (22 : Int32).toNatClampNeg) by decide) dX9_tries_173 ?_
                        refine top_i (y := (gs 22)) (rfl) ?_
                        refine top_i (y := S.2.1.2.2) hS0.2.1.2.2 ?_
                        refine lv_icmp_le (tgt := 187) hx hb dX9_tries_174 (by decide) (fun c_174 => ?_) (fun c_174 => ?_)
                        · refine lv_iload hx hb dX9_tries_187 (lv_at hl 3 rfl) ?_
                          refine lv_ineg hx hb dX9_tries_189 ?_
                          refine cV_i CF hK hN hA hS (cut_of 2 [0, 1] hP hD rfl rfl rfl) (n_goDown l D cI cZ cW cJ A (X) mo zs zv zl zk zt zg zi zw zo ze zd vn vl vh vg c8 (nI jj9) (tt9 + 1) (nI oo9) vp va vb vd vq m8 vz gs S (-ri9) hS0 (by rw [hF.1]; exact (ri_small _ hF.2.1).2)) (cwV 1 hts gX9_tries_X9_goDown rfl rfl rfl (by decide +kernel) ⟨Nat.le_of_ble_eq_true rfl, Nat.le_of_ble_eq_true rfl⟩) (As := [.int (-ri9)]) (rest := []) (ci := 9) (q0 := 0) rfl rfl rfl hl.1 rfl (Nat.le_of_ble_eq_true rfl) dX9_tries_190 ⟨Nat.le_of_ble_eq_true rfl, Nat.le_of_ble_eq_true rfl⟩ (fun r_190 u_190 H locs hq hP hD hS => ?_)
                          have hq_190 : r_190 = bI (downF (Bk S.1) c8 (-ri9).toNatClampNeg (nI jj9)).2 ∧ u_190 = (downF (Bk S.1) c8 (-ri9).toNatClampNeg (nI jj9)).1 := hq
                          have hr_190 : r_190 = bI (downF (Bk S.1) c8 (-ri9).toNatClampNeg (nI jj9)).2 := hq_190.1
                          subst hr_190
                          have hP : va_P D vwCl (oX9 mo zs zv vn zl zk zt vl vh zg zi zw vg zo ze c8 u_190 (tt9 + 1) (nI oo9) (bI m8) vp va vb vd vq zd vz :: aI cI zs 28 gs :: X) H := pm_P hP 2 [0, 1] rfl
                          have hD : va_D A (oX9 mo zs zv vn zl zk zt vl vh zg zi zw vg zo ze c8 u_190 (tt9 + 1) (nI oo9) (bI m8) vp va vb vd vq zd vz :: aI cI zs 28 gs :: X) := pm_D hD 2 [0, 1] rfl rfl rfl
                          have hst9 : (-ri9).toNatClampNeg = stepsF (me9 || h2) ri9 S.2.1.2.2 := by rw [← hm2, bt_c c_161]; exact steps_met2 (Int32.not_lt.mpr c_174)
                          obtain ⟨hn1, j2, hd1, hb2, hj2, hdf, hdt⟩ := hF.down hBO hnf e2 hns e3 (Int32.not_lt.mpr c_137) hbk hjo hsd
                          rw [← hst9] at hd1 hdf hdt
                          have hu9 : u_190 = nI j2 := hq_190.2.trans hd1
                          rw [hu9] at hP hD
                          have hP : va_P D vwCl (oX9 mo zs zv vn zl zk zt vl vh zg zi zw vg zo ze c8 (nI j2) (tt9 + 1) (nI oo9) (bI m8) vp va vb vd vq zd vz :: aI cI zs 28 gs :: X) H := hP
                          have hD : va_D A (oX9 mo zs zv vn zl zk zt vl vh zg zi zw vg zo ze c8 (nI j2) (tt9 + 1) (nI oo9) (bI m8) vp va vb vd vq zd vz :: aI cI zs 28 gs :: X) := hD
                          refine lv_istore (lv' := [(7, .int (bI (downF (Bk S.1) c8 (-ri9).toNatClampNeg (nI jj9)).2)), (9, .int (nI k8)), (8, .int sp9), (5, .int s8), (6, .int ri9), (0, .ref mo), (1, .int (nI ac)), (2, .int (nI ar)), (3, .int xd), (4, .int (nI ak))]) hx hb dX9_tries_193 hl (by decide) rfl (fun ls hl => ?_)
                          refine lv_iload hx hb dX9_tries_195 (lv_at hl 4 rfl) ?_
                          refine lv_iconst (v := 1) hx hb dX9_tries_197 (by decide) ?_
                          refine lv_isub hx hb dX9_tries_198 ?_
                          refine lv_aload_n hx hb dX9_tries_199 rfl (lv_at hl 5 rfl) ?_
                          refine va_get (D := D) (ci := 9) (v := .ref zs) (C := RX9) (T := TX9) (N := 26) hx hb hts hiX9 hown hK hP 0 rfl rfl 0 (by decide) (hts (.fieldLink RX9 7 "LedgeLeapsModel" "s" "[I") (List.mem_of_getElem? (i := 6) rfl)) (fun _ h9 => h9) rfl dX9_tries_200 ?_
                          refine lv_bipush (v := 21) hx hb dX9_tries_203 (by decide) ?_
                          refine va_iald hx hb hK hP 1 0 rfl rfl (show ¬ ((21 : Int32) < 0 ∨ 28 ≤ (21 : Int32).toNatClampNeg) by decide) dX9_tries_205 ?_
                          refine top_i (y := (gs 21)) (rfl) ?_
                          refine top_i (y := S.2.1.2.1) hS0.2.1.2.1 ?_
                          refine lv_ineg hx hb dX9_tries_206 ?_
                          refine lv_icmp_ge (tgt := 221) hx hb dX9_tries_207 (by decide) (fun c_207 => ?_) (fun c_207 => ?_)
                          · refine lv_iload hx hb dX9_tries_221 (lv_at hl 4 rfl) ?_
                            refine lv_iconst (v := 1) hx hb dX9_tries_223 (by decide) ?_
                            refine lv_isub hx hb dX9_tries_224 ?_
                            refine top_i (y := (max2 (ri9 - 1) (-S.2.1.2.1))) (max2_f (Int32.not_lt.mpr c_207)) ?_
                            refine lv_istore (lv' := [(6, .int (max2 (ri9 - 1) (-S.2.1.2.1))), (7, .int (bI (downF (Bk S.1) c8 (-ri9).toNatClampNeg (nI jj9)).2)), (9, .int (nI k8)), (8, .int sp9), (5, .int s8), (0, .ref mo), (1, .int (nI ac)), (2, .int (nI ar)), (3, .int xd), (4, .int (nI ak))]) hx hb dX9_tries_225 hl (by decide) rfl (fun ls hl => ?_)
                            refine lv_goto (tgt := 57) hx hb dX9_tries_227 (by decide) ?_
                            refine ih_57 (nn9 - 1) j2 oo9 c8 (tt9 + 1) s8 (max2 (ri9 - 1) (-S.2.1.2.1)) m8 ((downF (Bk S.1) c8 (-ri9).toNatClampNeg (nI jj9)).2) (by omega) (hb2) (hj2) ?_ _ _ (hP) (hD) hS _ (lv_sub hl [4, 0, 1, 5, 6, 7, 8, 9] rfl)
                            · rw [hm2, hs2]
                              cases hz : (downF (Bk S.1) c8 (-ri9).toNatClampNeg (nI jj9)).2 with
                              | false => exact Or.inl ⟨rfl, hdf hz⟩
                              | true => exact Or.inr ⟨rfl, hdt hz⟩
                          · refine lv_aload_n hx hb dX9_tries_210 rfl (lv_at hl 5 rfl) ?_
                            refine va_get (D := D) (ci := 9) (v := .ref zs) (C := RX9) (T := TX9) (N := 26) hx hb hts hiX9 hown hK hP 0 rfl rfl 0 (by decide) (hts (.fieldLink RX9 7 "LedgeLeapsModel" "s" "[I") (List.mem_of_getElem? (i := 6) rfl)) (fun _ h9 => h9) rfl dX9_tries_211 ?_
                            refine lv_bipush (v := 21) hx hb dX9_tries_214 (by decide) ?_
                            refine va_iald hx hb hK hP 1 0 rfl rfl (show ¬ ((21 : Int32) < 0 ∨ 28 ≤ (21 : Int32).toNatClampNeg) by decide) dX9_tries_216 ?_
                            refine top_i (y := (gs 21)) (rfl) ?_
                            refine top_i (y := S.2.1.2.1) hS0.2.1.2.1 ?_
                            refine lv_ineg hx hb dX9_tries_217 ?_
                            refine top_i (y := (max2 (ri9 - 1) (-S.2.1.2.1))) (max2_t (Int32.not_le.mp c_207)) ?_
                            refine lv_goto (tgt := 225) hx hb dX9_tries_218 (by decide) ?_
                            refine lv_istore (lv' := [(6, .int (max2 (ri9 - 1) (-S.2.1.2.1))), (7, .int (bI (downF (Bk S.1) c8 (-ri9).toNatClampNeg (nI jj9)).2)), (9, .int (nI k8)), (8, .int sp9), (5, .int s8), (0, .ref mo), (1, .int (nI ac)), (2, .int (nI ar)), (3, .int xd), (4, .int (nI ak))]) hx hb dX9_tries_225 hl (by decide) rfl (fun ls hl => ?_)
                            refine lv_goto (tgt := 57) hx hb dX9_tries_227 (by decide) ?_
                            refine ih_57 (nn9 - 1) j2 oo9 c8 (tt9 + 1) s8 (max2 (ri9 - 1) (-S.2.1.2.1)) m8 ((downF (Bk S.1) c8 (-ri9).toNatClampNeg (nI jj9)).2) (by omega) (hb2) (hj2) ?_ _ _ (hP) (hD) hS _ (lv_sub hl [4, 0, 1, 5, 6, 7, 8, 9] rfl)
                            · rw [hm2, hs2]
                              cases hz : (downF (Bk S.1) c8 (-ri9).toNatClampNeg (nI jj9)).2 with
                              | false => exact Or.inl ⟨rfl, hdf hz⟩
                              | true => exact Or.inr ⟨rfl, hdt hz⟩
                        · refine lv_aload_n hx hb dX9_tries_177 rfl (lv_at hl 5 rfl) ?_
                          refine va_get (D := D) (ci := 9) (v := .ref zs) (C := RX9) (T := TX9) (N := 26) hx hb hts hiX9 hown hK hP 0 rfl rfl 0 (by decide) (hts (.fieldLink RX9 7 "LedgeLeapsModel" "s" "[I") (List.mem_of_getElem? (i := 6) rfl)) (fun _ h9 => h9) rfl dX9_tries_178 ?_
                          refine lv_bipush (v := 22) hx hb dX9_tries_181 (by decide) ?_
                          refine va_iald hx hb hK hP 1 0 rfl rfl (show ¬ ((22 : Int32) < 0 ∨ 28 ≤ (22 : Int32).toNatClampNeg) by decide) dX9_tries_183 ?_
                          refine top_i (y := (gs 22)) (rfl) ?_
                          refine top_i (y := S.2.1.2.2) hS0.2.1.2.2 ?_
                          refine lv_goto (tgt := 190) hx hb dX9_tries_184 (by decide) ?_
                          refine cV_i CF hK hN hA hS (cut_of 2 [0, 1] hP hD rfl rfl rfl) (n_goDown l D cI cZ cW cJ A (X) mo zs zv zl zk zt zg zi zw zo ze zd vn vl vh vg c8 (nI jj9) (tt9 + 1) (nI oo9) vp va vb vd vq m8 vz gs S S.2.1.2.2 hS0 (by rw [e3, nI_clamp (by omega)]; omega)) (cwV 1 hts gX9_tries_X9_goDown rfl rfl rfl (by decide +kernel) ⟨Nat.le_of_ble_eq_true rfl, Nat.le_of_ble_eq_true rfl⟩) (As := [.int S.2.1.2.2]) (rest := []) (ci := 9) (q0 := 0) rfl rfl rfl hl.1 rfl (Nat.le_of_ble_eq_true rfl) dX9_tries_190 ⟨Nat.le_of_ble_eq_true rfl, Nat.le_of_ble_eq_true rfl⟩ (fun r_190 u_190 H locs hq hP hD hS => ?_)
                          have hq_190 : r_190 = bI (downF (Bk S.1) c8 S.2.1.2.2.toNatClampNeg (nI jj9)).2 ∧ u_190 = (downF (Bk S.1) c8 S.2.1.2.2.toNatClampNeg (nI jj9)).1 := hq
                          have hr_190 : r_190 = bI (downF (Bk S.1) c8 S.2.1.2.2.toNatClampNeg (nI jj9)).2 := hq_190.1
                          subst hr_190
                          have hP : va_P D vwCl (oX9 mo zs zv vn zl zk zt vl vh zg zi zw vg zo ze c8 u_190 (tt9 + 1) (nI oo9) (bI m8) vp va vb vd vq zd vz :: aI cI zs 28 gs :: X) H := pm_P hP 2 [0, 1] rfl
                          have hD : va_D A (oX9 mo zs zv vn zl zk zt vl vh zg zi zw vg zo ze c8 u_190 (tt9 + 1) (nI oo9) (bI m8) vp va vb vd vq zd vz :: aI cI zs 28 gs :: X) := pm_D hD 2 [0, 1] rfl rfl rfl
                          have hst9 : S.2.1.2.2.toNatClampNeg = stepsF (me9 || h2) ri9 S.2.1.2.2 := by rw [← hm2, bt_c c_161]; exact steps_met (Int32.not_le.mp c_174)
                          obtain ⟨hn1, j2, hd1, hb2, hj2, hdf, hdt⟩ := hF.down hBO hnf e2 hns e3 (Int32.not_lt.mpr c_137) hbk hjo hsd
                          rw [← hst9] at hd1 hdf hdt
                          have hu9 : u_190 = nI j2 := hq_190.2.trans hd1
                          rw [hu9] at hP hD
                          have hP : va_P D vwCl (oX9 mo zs zv vn zl zk zt vl vh zg zi zw vg zo ze c8 (nI j2) (tt9 + 1) (nI oo9) (bI m8) vp va vb vd vq zd vz :: aI cI zs 28 gs :: X) H := hP
                          have hD : va_D A (oX9 mo zs zv vn zl zk zt vl vh zg zi zw vg zo ze c8 (nI j2) (tt9 + 1) (nI oo9) (bI m8) vp va vb vd vq zd vz :: aI cI zs 28 gs :: X) := hD
                          refine lv_istore (lv' := [(7, .int (bI (downF (Bk S.1) c8 S.2.1.2.2.toNatClampNeg (nI jj9)).2)), (9, .int (nI k8)), (8, .int sp9), (5, .int s8), (6, .int ri9), (0, .ref mo), (1, .int (nI ac)), (2, .int (nI ar)), (3, .int xd), (4, .int (nI ak))]) hx hb dX9_tries_193 hl (by decide) rfl (fun ls hl => ?_)
                          refine lv_iload hx hb dX9_tries_195 (lv_at hl 4 rfl) ?_
                          refine lv_iconst (v := 1) hx hb dX9_tries_197 (by decide) ?_
                          refine lv_isub hx hb dX9_tries_198 ?_
                          refine lv_aload_n hx hb dX9_tries_199 rfl (lv_at hl 5 rfl) ?_
                          refine va_get (D := D) (ci := 9) (v := .ref zs) (C := RX9) (T := TX9) (N := 26) hx hb hts hiX9 hown hK hP 0 rfl rfl 0 (by decide) (hts (.fieldLink RX9 7 "LedgeLeapsModel" "s" "[I") (List.mem_of_getElem? (i := 6) rfl)) (fun _ h9 => h9) rfl dX9_tries_200 ?_
                          refine lv_bipush (v := 21) hx hb dX9_tries_203 (by decide) ?_
                          refine va_iald hx hb hK hP 1 0 rfl rfl (show ¬ ((21 : Int32) < 0 ∨ 28 ≤ (21 : Int32).toNatClampNeg) by decide) dX9_tries_205 ?_
                          refine top_i (y := (gs 21)) (rfl) ?_
                          refine top_i (y := S.2.1.2.1) hS0.2.1.2.1 ?_
                          refine lv_ineg hx hb dX9_tries_206 ?_
                          refine lv_icmp_ge (tgt := 221) hx hb dX9_tries_207 (by decide) (fun c_207 => ?_) (fun c_207 => ?_)
                          · refine lv_iload hx hb dX9_tries_221 (lv_at hl 4 rfl) ?_
                            refine lv_iconst (v := 1) hx hb dX9_tries_223 (by decide) ?_
                            refine lv_isub hx hb dX9_tries_224 ?_
                            refine top_i (y := (max2 (ri9 - 1) (-S.2.1.2.1))) (max2_f (Int32.not_lt.mpr c_207)) ?_
                            refine lv_istore (lv' := [(6, .int (max2 (ri9 - 1) (-S.2.1.2.1))), (7, .int (bI (downF (Bk S.1) c8 S.2.1.2.2.toNatClampNeg (nI jj9)).2)), (9, .int (nI k8)), (8, .int sp9), (5, .int s8), (0, .ref mo), (1, .int (nI ac)), (2, .int (nI ar)), (3, .int xd), (4, .int (nI ak))]) hx hb dX9_tries_225 hl (by decide) rfl (fun ls hl => ?_)
                            refine lv_goto (tgt := 57) hx hb dX9_tries_227 (by decide) ?_
                            refine ih_57 (nn9 - 1) j2 oo9 c8 (tt9 + 1) s8 (max2 (ri9 - 1) (-S.2.1.2.1)) m8 ((downF (Bk S.1) c8 S.2.1.2.2.toNatClampNeg (nI jj9)).2) (by omega) (hb2) (hj2) ?_ _ _ (hP) (hD) hS _ (lv_sub hl [4, 0, 1, 5, 6, 7, 8, 9] rfl)
                            · rw [hm2, hs2]
                              cases hz : (downF (Bk S.1) c8 S.2.1.2.2.toNatClampNeg (nI jj9)).2 with
                              | false => exact Or.inl ⟨rfl, hdf hz⟩
                              | true => exact Or.inr ⟨rfl, hdt hz⟩
                          · refine lv_aload_n hx hb dX9_tries_210 rfl (lv_at hl 5 rfl) ?_
                            refine va_get (D := D) (ci := 9) (v := .ref zs) (C := RX9) (T := TX9) (N := 26) hx hb hts hiX9 hown hK hP 0 rfl rfl 0 (by decide) (hts (.fieldLink RX9 7 "LedgeLeapsModel" "s" "[I") (List.mem_of_getElem? (i := 6) rfl)) (fun _ h9 => h9) rfl dX9_tries_211 ?_
                            refine lv_bipush (v := 21) hx hb dX9_tries_214 (by decide) ?_
                            refine va_iald hx hb hK hP 1 0 rfl rfl (show ¬ ((21 : Int32) < 0 ∨ 28 ≤ (21 : Int32).toNatClampNeg) by decide) dX9_tries_216 ?_
                            refine top_i (y := (gs 21)) (rfl) ?_
                            refine top_i (y := S.2.1.2.1) hS0.2.1.2.1 ?_
                            refine lv_ineg hx hb dX9_tries_217 ?_
                            refine top_i (y := (max2 (ri9 - 1) (-S.2.1.2.1))) (max2_t (Int32.not_le.mp c_207)) ?_
                            refine lv_goto (tgt := 225) hx hb dX9_tries_218 (by decide) ?_
                            refine lv_istore (lv' := [(6, .int (max2 (ri9 - 1) (-S.2.1.2.1))), (7, .int (bI (downF (Bk S.1) c8 S.2.1.2.2.toNatClampNeg (nI jj9)).2)), (9, .int (nI k8)), (8, .int sp9), (5, .int s8), (0, .ref mo), (1, .int (nI ac)), (2, .int (nI ar)), (3, .int xd), (4, .int (nI ak))]) hx hb dX9_tries_225 hl (by decide) rfl (fun ls hl => ?_)
                            refine lv_goto (tgt := 57) hx hb dX9_tries_227 (by decide) ?_
                            refine ih_57 (nn9 - 1) j2 oo9 c8 (tt9 + 1) s8 (max2 (ri9 - 1) (-S.2.1.2.1)) m8 ((downF (Bk S.1) c8 S.2.1.2.2.toNatClampNeg (nI jj9)).2) (by omega) (hb2) (hj2) ?_ _ _ (hP) (hD) hS _ (lv_sub hl [4, 0, 1, 5, 6, 7, 8, 9] rfl)
                            · rw [hm2, hs2]
                              cases hz : (downF (Bk S.1) c8 S.2.1.2.2.toNatClampNeg (nI jj9)).2 with
                              | false => exact Or.inl ⟨rfl, hdf hz⟩
                              | true => exact Or.inr ⟨rfl, hdt hz⟩
                  · refine lv_aload_n hx hb dX9_tries_140 rfl (lv_at hl 5 rfl) ?_
                    refine lv_iload hx hb dX9_tries_141 (lv_at hl 3 rfl) ?_
                    refine cV_i CF hK hN hA hS (cut_of 2 [0, 1] hP hD rfl rfl rfl) (n_goUp l D cI cZ cW cJ A (X) mo zs zv zl zk zt zg zi zw zo ze zd vn vl vh vg c8 (tt9 + 1) vp va vb vd vq m8 vz gs S jj9 oo9 ri9 hS0 hjo.1 (by omega) (by rw [hF.1]; exact (ri_small _ hF.2.1).1)) (cwV 1 hts gX9_tries_X9_goUp rfl rfl rfl (by decide +kernel) ⟨Nat.le_of_ble_eq_true rfl, Nat.le_of_ble_eq_true rfl⟩) (As := [.int ri9]) (rest := []) (ci := 9) (q0 := 0) rfl rfl rfl hl.1 rfl (Nat.le_of_ble_eq_true rfl) dX9_tries_143 ⟨Nat.le_of_ble_eq_true rfl, Nat.le_of_ble_eq_true rfl⟩ (fun r_143 u_143 H locs hq hP hD hS => ?_)
                    have hq_143 : r_143 = (if (upF (Bk S.1) c8 ri9.toNatClampNeg (nI jj9)).2 = true then 0 else ri9) ∧ nI u_143.1 = (upF (Bk S.1) c8 ri9.toNatClampNeg (nI jj9)).1 ∧ u_143.1 ≤ jj9 + ri9.toNatClampNeg ∧ u_143.2 = max oo9 u_143.1 := hq
                    have hP : va_P D vwCl (oX9 mo zs zv vn zl zk zt vl vh zg zi zw vg zo ze c8 (nI u_143.1) (tt9 + 1) (nI u_143.2) (bI m8) vp va vb vd vq zd vz :: aI cI zs 28 gs :: X) H := pm_P hP 2 [0, 1] rfl
                    have hD : va_D A (oX9 mo zs zv vn zl zk zt vl vh zg zi zw vg zo ze c8 (nI u_143.1) (tt9 + 1) (nI u_143.2) (bI m8) vp va vb vd vq zd vz :: aI cI zs 28 gs :: X) := pm_D hD 2 [0, 1] rfl rfl rfl
                    obtain ⟨hr143, hu1, hu2, hu3⟩ := hq_143
                    obtain ⟨hb2, hj2, hn1, a2, hF2⟩ := hF.up hBO hnf e2 (Int32.not_le.mp c_137) hbk hjo hsd hu1 hu2 hu3
                    rw [← hr143] at hF2
                    refine lv_istore (lv' := [(6, .int r_143), (9, .int (nI k8)), (8, .int sp9), (5, .int s8), (7, .int (bI en9)), (0, .ref mo), (1, .int (nI ac)), (2, .int (nI ar)), (3, .int xd), (4, .int (nI ak))]) hx hb dX9_tries_146 hl (by decide) rfl (fun ls hl => ?_)
                    refine lv_goto (tgt := 195) hx hb dX9_tries_148 (by decide) ?_
                    refine lv_iload hx hb dX9_tries_195 (lv_at hl 0 rfl) ?_
                    refine lv_iconst (v := 1) hx hb dX9_tries_197 (by decide) ?_
                    refine lv_isub hx hb dX9_tries_198 ?_
                    refine lv_aload_n hx hb dX9_tries_199 rfl (lv_at hl 5 rfl) ?_
                    refine va_get (D := D) (ci := 9) (v := .ref zs) (C := RX9) (T := TX9) (N := 26) hx hb hts hiX9 hown hK hP 0 rfl rfl 0 (by decide) (hts (.fieldLink RX9 7 "LedgeLeapsModel" "s" "[I") (List.mem_of_getElem? (i := 6) rfl)) (fun _ h9 => h9) rfl dX9_tries_200 ?_
                    refine lv_bipush (v := 21) hx hb dX9_tries_203 (by decide) ?_
                    refine va_iald hx hb hK hP 1 0 rfl rfl (show ¬ ((21 : Int32) < 0 ∨ 28 ≤ (21 : Int32).toNatClampNeg) by decide) dX9_tries_205 ?_
                    refine top_i (y := (gs 21)) (rfl) ?_
                    refine top_i (y := S.2.1.2.1) hS0.2.1.2.1 ?_
                    refine lv_ineg hx hb dX9_tries_206 ?_
                    refine lv_icmp_ge (tgt := 221) hx hb dX9_tries_207 (by decide) (fun c_207 => ?_) (fun c_207 => ?_)
                    · refine lv_iload hx hb dX9_tries_221 (lv_at hl 0 rfl) ?_
                      refine lv_iconst (v := 1) hx hb dX9_tries_223 (by decide) ?_
                      refine lv_isub hx hb dX9_tries_224 ?_
                      refine top_i (y := (max2 (r_143 - 1) (-S.2.1.2.1))) (max2_f (Int32.not_lt.mpr c_207)) ?_
                      refine lv_istore (lv' := [(6, .int (max2 (r_143 - 1) (-S.2.1.2.1))), (9, .int (nI k8)), (8, .int sp9), (5, .int s8), (7, .int (bI en9)), (0, .ref mo), (1, .int (nI ac)), (2, .int (nI ar)), (3, .int xd), (4, .int (nI ak))]) hx hb dX9_tries_225 hl (by decide) rfl (fun ls hl => ?_)
                      refine lv_goto (tgt := 57) hx hb dX9_tries_227 (by decide) ?_
                      exact ih_57 (nn9 - 1) u_143.1 u_143.2 c8 (tt9 + 1) s8 (max2 (r_143 - 1) (-S.2.1.2.1)) m8 en9 (by omega) (hb2) (hj2) (Or.inl ⟨hen, a2, by rw [hm2, hs2]; exact hF2⟩) _ _ (hP) (hD) hS _ (lv_sub hl [3, 0, 4, 5, 6, 7, 8, 9] rfl)
                    · refine lv_aload_n hx hb dX9_tries_210 rfl (lv_at hl 5 rfl) ?_
                      refine va_get (D := D) (ci := 9) (v := .ref zs) (C := RX9) (T := TX9) (N := 26) hx hb hts hiX9 hown hK hP 0 rfl rfl 0 (by decide) (hts (.fieldLink RX9 7 "LedgeLeapsModel" "s" "[I") (List.mem_of_getElem? (i := 6) rfl)) (fun _ h9 => h9) rfl dX9_tries_211 ?_
                      refine lv_bipush (v := 21) hx hb dX9_tries_214 (by decide) ?_
                      refine va_iald hx hb hK hP 1 0 rfl rfl (show ¬ ((21 : Int32) < 0 ∨ 28 ≤ (21 : Int32).toNatClampNeg) by decide) dX9_tries_216 ?_
                      refine top_i (y := (gs 21)) (rfl) ?_
                      refine top_i (y := S.2.1.2.1) hS0.2.1.2.1 ?_
                      refine lv_ineg hx hb dX9_tries_217 ?_
                      refine top_i (y := (max2 (r_143 - 1) (-S.2.1.2.1))) (max2_t (Int32.not_le.mp c_207)) ?_
                      refine lv_goto (tgt := 225) hx hb dX9_tries_218 (by decide) ?_
                      refine lv_istore (lv' := [(6, .int (max2 (r_143 - 1) (-S.2.1.2.1))), (9, .int (nI k8)), (8, .int sp9), (5, .int s8), (7, .int (bI en9)), (0, .ref mo), (1, .int (nI ac)), (2, .int (nI ar)), (3, .int xd), (4, .int (nI ak))]) hx hb dX9_tries_225 hl (by decide) rfl (fun ls hl => ?_)
                      refine lv_goto (tgt := 57) hx hb dX9_tries_227 (by decide) ?_
                      exact ih_57 (nn9 - 1) u_143.1 u_143.2 c8 (tt9 + 1) s8 (max2 (r_143 - 1) (-S.2.1.2.1)) m8 en9 (by omega) (hb2) (hj2) (Or.inl ⟨hen, a2, by rw [hm2, hs2]; exact hF2⟩) _ _ (hP) (hD) hS _ (lv_sub hl [3, 0, 4, 5, 6, 7, 8, 9] rfl)
                · have hk2 : k8 < sp9.toNatClampNeg := (lt_cl (x := sp9) (i := k8) (by have := cl_lt sp9; omega)).mp (Int32.not_le.mp c_83)
                  obtain ⟨e8, e8m, e8s⟩ : s8 = sp9 ∧ m8 = me9 ∧ sideF (Bk S.1) xd (nI jj9) (sp9.toNatClampNeg - k8) c8 = sideF (Bk S.1) xd (nI jj9) sp9.toNatClampNeg cc9 := by rcases hD8 with h | ⟨h, -⟩; exact h; exact absurd (by rw [h]; decide) c_88
                  refine lv_aload_n hx hb dX9_tries_91 rfl (lv_at hl 5 rfl) ?_
                  refine lv_aload_n hx hb dX9_tries_92 rfl (lv_at hl 5 rfl) ?_
                  refine va_get (D := D) (ci := 9) (v := .int c8) (C := RX9) (T := TX9) (N := 26) hx hb hts hiX9 hown hK hP 0 rfl rfl 14 (by decide) (hts (.fieldLink RX9 76 "LedgeLeapsModel" "column" "I") (List.mem_of_getElem? (i := 1) rfl)) (fun _ h9 => h9) rfl dX9_tries_93 ?_
                  refine lv_iload_n hx hb dX9_tries_96 rfl (lv_at hl 8 rfl) ?_
                  refine lv_iadd hx hb dX9_tries_97 ?_
                  refine lv_aload_n hx hb dX9_tries_98 rfl (lv_at hl 5 rfl) ?_
                  refine va_get (D := D) (ci := 9) (v := .int (nI jj9)) (C := RX9) (T := TX9) (N := 26) hx hb hts hiX9 hown hK hP 0 rfl rfl 15 (by decide) (hts (.fieldLink RX9 79 "LedgeLeapsModel" "row" "I") (List.mem_of_getElem? (i := 2) rfl)) (fun _ h9 => h9) rfl dX9_tries_99 ?_
                  refine cV_i CF hK hN hA hS (cut_of 2 [0, 1] hP hD rfl rfl rfl) (n_isBlock l D cI cZ cW cJ A (X) mo zs zv zl zk zt zg zi zw zo ze zd vn vl vh vg c8 (nI jj9) (tt9 + 1) (nI oo9) vp va vb vd vq m8 vz gs S (c8 + xd) (nI jj9) hS0) (cwV 2 hts gX9_tries_X9_isBlock rfl rfl rfl (by decide +kernel) ⟨Nat.le_of_ble_eq_true rfl, Nat.le_of_ble_eq_true rfl⟩) (As := [.int (c8 + xd), .int (nI jj9)]) (rest := []) (ci := 9) (q0 := 0) rfl rfl rfl hl.1 rfl (Nat.le_of_ble_eq_true rfl) dX9_tries_102 ⟨Nat.le_of_ble_eq_true rfl, Nat.le_of_ble_eq_true rfl⟩ (fun r_102 _ H locs hq hP hD hS => ?_)
                  have hq : r_102 = bI (Bk S.1 (c8 + xd) (nI jj9)) := hq
                  subst hq
                  have hP : va_P D vwCl (oX9 mo zs zv vn zl zk zt vl vh zg zi zw vg zo ze c8 (nI jj9) (tt9 + 1) (nI oo9) (bI m8) vp va vb vd vq zd vz :: aI cI zs 28 gs :: X) H := pm_P hP 2 [0, 1] rfl
                  have hD : va_D A (oX9 mo zs zv vn zl zk zt vl vh zg zi zw vg zo ze c8 (nI jj9) (tt9 + 1) (nI oo9) (bI m8) vp va vb vd vq zd vz :: aI cI zs 28 gs :: X) := pm_D hD 2 [0, 1] rfl rfl rfl
                  refine lv_if_eq (tgt := 119) hx hb dX9_tries_105 (by decide) (fun c_105 => ?_) (fun c_105 => ?_)
                  · refine lv_aload_n hx hb dX9_tries_119 rfl (lv_at hl 5 rfl) ?_
                    refine lv_dup hx hb dX9_tries_120 rfl ?_
                    refine va_get (D := D) (ci := 9) (v := .int c8) (C := RX9) (T := TX9) (N := 26) hx hb hts hiX9 hown hK hP 0 rfl rfl 14 (by decide) (hts (.fieldLink RX9 76 "LedgeLeapsModel" "column" "I") (List.mem_of_getElem? (i := 1) rfl)) (fun _ h9 => h9) rfl dX9_tries_121 ?_
                    refine lv_iload_n hx hb dX9_tries_124 rfl (lv_at hl 8 rfl) ?_
                    refine lv_iadd hx hb dX9_tries_125 ?_
                    refine va_put (D := D) (ci := 9) (v := .int (c8 + xd)) (ty := .int) (C := RX9) (T := TX9) (N := 26) hx hb hts hiX9 tyX9 tyX9_ok nmX9 hown hK hP hD hS 0 rfl rfl 14 (by decide) (hts (.fieldLink RX9 76 "LedgeLeapsModel" "column" "I") (List.mem_of_getElem? (i := 1) rfl)) (fun _ h9 => h9) rfl (by decide +kernel) rfl rfl (Nat.le_of_ble_eq_true rfl) dX9_tries_126 (fun H locs hP hD hS => ?_)
                    have hP : va_P D vwCl (oX9 mo zs zv vn zl zk zt vl vh zg zi zw vg zo ze (c8 + xd) (nI jj9) (tt9 + 1) (nI oo9) (bI m8) vp va vb vd vq zd vz :: aI cI zs 28 gs :: X) H := hP
                    have hD : va_D A (oX9 mo zs zv vn zl zk zt vl vh zg zi zw vg zo ze (c8 + xd) (nI jj9) (tt9 + 1) (nI oo9) (bI m8) vp va vb vd vq zd vz :: aI cI zs 28 gs :: X) := hD
                    refine lv_iinc (v := (nI (k8 + 1))) (lv' := [(9, .int (nI (k8 + 1))), (8, .int sp9), (5, .int s8), (6, .int ri9), (7, .int (bI en9)), (0, .ref mo), (1, .int (nI ac)), (2, .int (nI ar)), (3, .int xd), (4, .int (nI ak))]) hx hb dX9_tries_129 hl (k := 0) rfl (nI_1 k8) (by decide) rfl (fun ls hl => ?_)
                    refine lv_goto (tgt := 79) hx hb dX9_tries_132 (by decide) ?_
                    exact ih_79 (k8 + 1) (c8 + xd) s8 m8 (by omega) (by omega) (Or.inl ⟨e8, e8m, by rw [← e8s, show sp9.toNatClampNeg - k8 = (sp9.toNatClampNeg - (k8 + 1)) + 1 by omega, sideF, if_neg (by rw [bf_c c_105]; decide)]⟩) _ _ (hP) (hD) hS _ (lv_sub hl [0, 1, 2, 3, 4, 5, 6, 7, 8, 9] rfl)
                  · refine lv_iconst (v := 0) hx hb dX9_tries_108 (by decide) ?_
                    refine lv_istore (lv' := [(5, .int 0), (9, .int (nI k8)), (8, .int sp9), (6, .int ri9), (7, .int (bI en9)), (0, .ref mo), (1, .int (nI ac)), (2, .int (nI ar)), (3, .int xd), (4, .int (nI ak))]) hx hb dX9_tries_109 hl (by decide) rfl (fun ls hl => ?_)
                    refine lv_aload_n hx hb dX9_tries_111 rfl (lv_at hl 5 rfl) ?_
                    refine lv_iconst (v := 1) hx hb dX9_tries_112 (by decide) ?_
                    refine va_put (D := D) (ci := 9) (v := .int 1) (ty := .boolean) (C := RX9) (T := TX9) (N := 26) hx hb hts hiX9 tyX9 tyX9_ok nmX9 hown hK hP hD hS 0 rfl rfl 18 (by decide) (hts (.fieldLink RX9 92 "LedgeLeapsModel" "isMet" "Z") (List.mem_of_getElem? (i := 5) rfl)) (fun _ h9 => h9) rfl (by decide +kernel) rfl rfl (Nat.le_of_ble_eq_true rfl) dX9_tries_113 (fun H locs hP hD hS => ?_)
                    have hP : va_P D vwCl (oX9 mo zs zv vn zl zk zt vl vh zg zi zw vg zo ze c8 (nI jj9) (tt9 + 1) (nI oo9) 1 vp va vb vd vq zd vz :: aI cI zs 28 gs :: X) H := hP
                    have hD : va_D A (oX9 mo zs zv vn zl zk zt vl vh zg zi zw vg zo ze c8 (nI jj9) (tt9 + 1) (nI oo9) 1 vp va vb vd vq zd vz :: aI cI zs 28 gs :: X) := hD
                    refine lv_goto (tgt := 129) hx hb dX9_tries_116 (by decide) ?_
                    refine lv_iinc (v := (nI (k8 + 1))) (lv' := [(9, .int (nI (k8 + 1))), (5, .int 0), (8, .int sp9), (6, .int ri9), (7, .int (bI en9)), (0, .ref mo), (1, .int (nI ac)), (2, .int (nI ar)), (3, .int xd), (4, .int (nI ak))]) hx hb dX9_tries_129 hl (k := 1) rfl (nI_1 k8) (by decide) rfl (fun ls hl => ?_)
                    refine lv_goto (tgt := 79) hx hb dX9_tries_132 (by decide) ?_
                    exact ih_79 (k8 + 1) c8 0 true (by omega) (by omega) (Or.inr ⟨rfl, rfl, by rw [← e8s, show sp9.toNatClampNeg - k8 = (sp9.toNatClampNeg - (k8 + 1)) + 1 by omega, sideF, if_pos (bt_c c_105)]⟩) _ _ (hP) (hD) hS _ (lv_sub hl [0, 2, 1, 3, 4, 5, 6, 7, 8, 9] rfl)
          exact loop_79 _ 0 cc9 sp9 me9 (Nat.lt_succ_self _) (Nat.zero_le _) (Or.inl ⟨rfl, rfl, rfl⟩) _ _ hP hD hS _ (lv_sub hl [0, 1, 2, 3, 4, 5, 6, 7, 8, 9] rfl)
    exact loop_57 _ 100 ar ar (nI ac) 0 ((nI ak) + 1) S.2.1.1 false false (Nat.lt_succ_self _) (hfr) (⟨Nat.le_refl _, har⟩) (Or.inl ⟨rfl, na + 5, e1.trans (ri_init na hna.1), by omega, fun q => by omega, fun q => by omega, rfl⟩) _ _ hP hD hS _ (lv_sub hl [2, 1, 0, 3, 4, 5, 6, 7] rfl)
  · refine lv_iconst (v := 0) hx hb dX9_tries_12 (by decide) ?_
    exact W.zret (v := 0) (ty := .boolean) hx hb hr (rfl) (fun t9 ht9 hW9 => ⟨⟨0, (vc, vr, vt, vo, vm), rfl, ⟨by rw [decide_eq_true (Int32.not_le.mp c_9)]; rfl, fun h => absurd (Int32.not_le.mp c_9) h⟩, by rw [ht9]; exact hP, hD⟩, hS.F ht9⟩) hS.2.2 dX9_tries_13
