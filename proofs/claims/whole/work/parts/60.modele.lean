set_option maxHeartbeats 4000000 in
set_option maxRecDepth 100000 in
theorem n_doBuild (l : Launch) (D : va_G) (cI cZ cW cJ : ClassId) (A : Nat → Prop) (X : va_W) (mo zs zv zl zk zt zg zi zw zo ze zd : Nat) (vn vl vh vg vc vr vt vo vp va vb vd vq : Int32) (vm : Bool) (vz : Int64) (gs : Nat → Int32) (S : KS) (ac ar : Nat) (hS0 : AbsM S gs) (hWf : Wf S) (hac : ac < 20) (har : ar < 10) : Met l yX9_doBuild wsX9_doBuild ({ frames := 4, cells := 0, slots := 0, locals := 87 }) (va_Pc [.ref mo, .int (nI ac), .int (nI ar)] (wd D (tyL cI cZ cW cJ) A (oX9 mo zs zv vn zl zk zt vl vh zg zi zw vg zo ze vc vr vt vo (bI vm) vp va vb vd vq zd vz :: aI cI zs 28 gs :: X))) (va_Qi (fun (r : Int32) (u : Nat → Int32) => r = (buildK S ac ar).2 ∧ AbsM (buildK S ac ar).1 u) (fun (u : Nat → Int32) t => wq D A (oX9 mo zs zv vn zl zk zt vl vh zg zi zw vg zo ze vc vr vt vo (bI vm) vp va vb vd vq zd vz :: aI cI zs 28 u :: X) t) A) 0 0 A := by
  refine Met.ofW (cc := cX9_doBuild) (maxL := 3) (ret := (some .int)) (by decide) rfl ?_
  intro p e s m args below meth c s₁ B hml hv
  obtain ⟨rfl, hsz9, hP, hK, hD, hN⟩ := hv
  have hx := B.exec
  have hb := B.bytes
  have hr := B.returns
  have hts := atoms_spec (ws := wsX9_doBuild) B.pre
  have hown : s.vm.findClass RX9 = some m.cls := findClass_of_methodNamed B.named
  have hlocks := B.notSynchronized
  have CF : CallFix p m c cX9_doBuild 3 s _ wsX9_doBuild RX9 := ⟨hx, hb, hml, hown, hts⟩
  have hA : ∀ q : Nat, s.heap.size ≤ q → A q := hsz9
  have hS : va_S A s.heap s.heap [] := va_S.rf
  have hiX9 : ∀ w ∈ u_ws RX9 TX9 26, w ∈ wsX9_doBuild := fun _ h => List.mem_cons_of_mem _ (List.mem_append_right _ (h))
  have hl := lv_entry ([.ref mo, .int (nI ac), .int (nI ar)]) (n := 3) (Nat.le_of_ble_eq_true rfl)
  rw [lg_entry_eq]
  generalize (lg_sl ([.ref mo, .int (nI ac), .int (nI ar)]) ++ List.replicate (3 - (lg_sl ([.ref mo, .int (nI ac), .int (nI ar)])).length) Slot.unset).toArray = ls at hl ⊢
  have hl : lv_has ls 3 [(0, .ref mo), (1, .int (nI ac)), (2, .int (nI ar))] := hl
  show W p l e ({ frames := 4, cells := 0, slots := 0, locals := 87 } : Room) s m (([.ref mo, .int (nI ac), .int (nI ar)] : List Value).toArray) below meth c s.heap [] 0 0 (MQ below (va_Qi (fun (r : Int32) (u : Nat → Int32) => r = (buildK S ac ar).2 ∧ AbsM (buildK S ac ar).1 u) (fun (u : Nat → Int32) t => wq D A (oX9 mo zs zv vn zl zk zt vl vh zg zi zw vg zo ze vc vr vt vo (bI vm) vp va vb vd vq zd vz :: aI cI zs 28 u :: X) t) A) (([.ref mo, .int (nI ac), .int (nI ar)] : List Value).toArray) s 0 0 A) (F0 m 0 ls [])
  refine lv_iload_n hx hb dX9_doBuild_0 rfl (lv_at hl 1 rfl) ?_
  refine lv_aload_n hx hb dX9_doBuild_1 rfl (lv_at hl 0 rfl) ?_
  refine va_get (D := D) (ci := 9) (v := .ref zs) (C := RX9) (T := TX9) (N := 26) hx hb hts hiX9 hown hK hP 0 rfl rfl 0 (by decide) (hts (.fieldLink RX9 7 "LedgeLeapsModel" "s" "[I") (List.mem_of_getElem? (i := 1) rfl)) (fun _ h9 => h9) rfl dX9_doBuild_2 ?_
  refine lv_bipush (v := 23) hx hb dX9_doBuild_5 (by decide) ?_
  refine va_iald hx hb hK hP 1 0 rfl rfl (show ¬ ((23 : Int32) < 0 ∨ 28 ≤ (23 : Int32).toNatClampNeg) by decide) dX9_doBuild_7 ?_
  refine top_i (y := (gs 23)) (rfl) ?_
  refine top_i (y := (nI S.2.2.1.1)) hS0.2.2.1.1 ?_
  refine lv_icmp_ne (tgt := 27) hx hb dX9_doBuild_8 (by decide) (fun c_8 => ?_) (fun c_8 => ?_)
  · have hne : ¬ (ac = S.2.2.1.1 ∧ ar = S.2.2.1.2) := fun q => c_8 (by rw [q.1])
    refine lv_aload_n hx hb dX9_doBuild_27 rfl (lv_at hl 0 rfl) ?_
    refine va_get (D := D) (ci := 9) (v := .ref zs) (C := RX9) (T := TX9) (N := 26) hx hb hts hiX9 hown hK hP 0 rfl rfl 0 (by decide) (hts (.fieldLink RX9 7 "LedgeLeapsModel" "s" "[I") (List.mem_of_getElem? (i := 1) rfl)) (fun _ h9 => h9) rfl dX9_doBuild_28 ?_
    refine lv_iconst (v := 0) hx hb dX9_doBuild_31 (by decide) ?_
    refine lv_iload_n hx hb dX9_doBuild_32 rfl (lv_at hl 1 rfl) ?_
    refine lv_iadd hx hb dX9_doBuild_33 ?_
    refine top_i (y := (nI ac)) (z_add ac) ?_
    refine lv_dup2_11 hx hb dX9_doBuild_34 rfl rfl ?_
    refine va_iald hx hb hK hP 1 0 rfl rfl (vp_ix (e := ac) (rfl) (by omega) (by decide)) dX9_doBuild_35 ?_
    refine top_i (y := (gs ac)) (ld_ix (f := gs) (x := (nI ac)) (e := ac) (n := 28) (rfl) (by omega) (by decide)) ?_
    refine lv_iconst (v := 1) hx hb dX9_doBuild_36 (by decide) ?_
    refine lv_iload_n hx hb dX9_doBuild_37 rfl (lv_at hl 2 rfl) ?_
    refine lv_ishl hx hb dX9_doBuild_38 ?_
    refine lv_ixor hx hb dX9_doBuild_39 ?_
    refine va_iast hx hb hK hP hD hS 1 0 rfl rfl (vp_ix (e := ac) (rfl) (by omega) (by decide)) dX9_doBuild_40 (fun H locs hP hD hS => ?_)
    rw [cl_ix (x := (nI ac)) (e := ac) (n := 28) (rfl) (by omega) (by decide)] at hP hD
    have hP : va_P D vwCl (oX9 mo zs zv vn zl zk zt vl vh zg zi zw vg zo ze vc vr vt vo (bI vm) vp va vb vd vq zd vz :: aI cI zs 28 (upd gs ac ((gs ac) ^^^ ((1 : Int32) <<< ((nI ar) &&& 31)))) :: X) H := hP
    have hD : va_D A (oX9 mo zs zv vn zl zk zt vl vh zg zi zw vg zo ze vc vr vt vo (bI vm) vp va vb vd vq zd vz :: aI cI zs 28 (upd gs ac ((gs ac) ^^^ ((1 : Int32) <<< ((nI ar) &&& 31)))) :: X) := hD
    have loop_41 : ∀ (nfu : Nat) (j9 n9 : Nat) (f9 : Nat → Int32) (hn_41 : j9 < nfu) (hA9 : AbsM (flipL S.1 ac ar, S.2.1, (S.2.2.1.1, j9), S.2.2.2) f9) (hj10 : j9 < 10) (hjn : j9 < n9) (hfr : (Bk (flipL S.1 ac ar)) (nI S.2.2.1.1) (nI j9) = false) (hv9 : fallB (Bk (flipL S.1 ac ar)) (nI S.2.2.1.1) n9 (nI j9) = fallB (Bk (flipL S.1 ac ar)) (nI S.2.2.1.1) 10 (nI S.2.2.1.2)) (H : Heap) (locs : List Loc) (hP : va_P D vwCl (oX9 mo zs zv vn zl zk zt vl vh zg zi zw vg zo ze vc vr vt vo (bI vm) vp va vb vd vq zd vz :: aI cI zs 28 f9 :: X) H) (hD : va_D A (oX9 mo zs zv vn zl zk zt vl vh zg zi zw vg zo ze vc vr vt vo (bI vm) vp va vb vd vq zd vz :: aI cI zs 28 f9 :: X)) (hS : va_S A s.heap H locs) (ls : Array Slot) (hl : lv_has ls 3 [(0, .ref mo), (1, .int (nI ac)), (2, .int (nI ar))]), W p l e ({ frames := 4, cells := 0, slots := 0, locals := 87 } : Room) s m (([.ref mo, .int (nI ac), .int (nI ar)] : List Value).toArray) below meth c H locs 0 0 (MQ below (va_Qi (fun (r : Int32) (u : Nat → Int32) => r = (buildK S ac ar).2 ∧ AbsM (buildK S ac ar).1 u) (fun (u : Nat → Int32) t => wq D A (oX9 mo zs zv vn zl zk zt vl vh zg zi zw vg zo ze vc vr vt vo (bI vm) vp va vb vd vq zd vz :: aI cI zs 28 u :: X) t) A) (([.ref mo, .int (nI ac), .int (nI ar)] : List Value).toArray) s 0 0 A) (F0 m 41 ls []) := by
      intro nfu
      induction nfu with
      | zero => intro j9 n9 f9 hn_41; exact absurd hn_41 (Nat.not_lt_zero _)
      | succ nfu ih_41 =>
        intro j9 n9 f9 hn_41 hA9 hj10 hjn hfr hv9 H locs hP hD hS ls hl
        refine lv_aload_n hx hb dX9_doBuild_41 rfl (lv_at hl 0 rfl) ?_
        refine lv_aload_n hx hb dX9_doBuild_42 rfl (lv_at hl 0 rfl) ?_
        refine va_get (D := D) (ci := 9) (v := .ref zs) (C := RX9) (T := TX9) (N := 26) hx hb hts hiX9 hown hK hP 0 rfl rfl 0 (by decide) (hts (.fieldLink RX9 7 "LedgeLeapsModel" "s" "[I") (List.mem_of_getElem? (i := 1) rfl)) (fun _ h9 => h9) rfl dX9_doBuild_43 ?_
        refine lv_bipush (v := 23) hx hb dX9_doBuild_46 (by decide) ?_
        refine va_iald hx hb hK hP 1 0 rfl rfl (show ¬ ((23 : Int32) < 0 ∨ 28 ≤ (23 : Int32).toNatClampNeg) by decide) dX9_doBuild_48 ?_
        refine top_i (y := (f9 23)) (rfl) ?_
        refine top_i (y := (nI S.2.2.1.1)) hA9.2.2.1.1 ?_
        refine lv_aload_n hx hb dX9_doBuild_49 rfl (lv_at hl 0 rfl) ?_
        refine va_get (D := D) (ci := 9) (v := .ref zs) (C := RX9) (T := TX9) (N := 26) hx hb hts hiX9 hown hK hP 0 rfl rfl 0 (by decide) (hts (.fieldLink RX9 7 "LedgeLeapsModel" "s" "[I") (List.mem_of_getElem? (i := 1) rfl)) (fun _ h9 => h9) rfl dX9_doBuild_50 ?_
        refine lv_bipush (v := 24) hx hb dX9_doBuild_53 (by decide) ?_
        refine va_iald hx hb hK hP 1 0 rfl rfl (show ¬ ((24 : Int32) < 0 ∨ 28 ≤ (24 : Int32).toNatClampNeg) by decide) dX9_doBuild_55 ?_
        refine top_i (y := (f9 24)) (rfl) ?_
        refine top_i (y := (nI j9)) hA9.2.2.1.2 ?_
        refine cV_i CF hK hN hA hS (cut_of 2 [0, 1] hP hD rfl rfl rfl) (n_canStand l D cI cZ cW cJ A (X) mo zs zv zl zk zt zg zi zw zo ze zd vn vl vh vg vc vr vt vo vp va vb vd vq vm vz f9 (flipL S.1 ac ar, S.2.1, (S.2.2.1.1, j9), S.2.2.2) (nI S.2.2.1.1) (nI j9) hA9) (cwV 2 hts gX9_doBuild_X9_canStand rfl rfl rfl (by decide +kernel) ⟨Nat.le_of_ble_eq_true rfl, Nat.le_of_ble_eq_true rfl⟩) (As := [.int (nI S.2.2.1.1), .int (nI j9)]) (rest := []) (ci := 9) (q0 := 0) rfl rfl rfl hl.1 rfl (Nat.le_of_ble_eq_true rfl) dX9_doBuild_56 ⟨Nat.le_of_ble_eq_true rfl, Nat.le_of_ble_eq_true rfl⟩ (fun r_56 _ H locs hq hP hD hS => ?_)
        have hq : r_56 = bI (stB (Bk (flipL S.1 ac ar, S.2.1, (S.2.2.1.1, j9), S.2.2.2).1) (nI S.2.2.1.1) (nI j9)) := hq
        subst hq
        have hP : va_P D vwCl (oX9 mo zs zv vn zl zk zt vl vh zg zi zw vg zo ze vc vr vt vo (bI vm) vp va vb vd vq zd vz :: aI cI zs 28 f9 :: X) H := pm_P hP 2 [0, 1] rfl
        have hD : va_D A (oX9 mo zs zv vn zl zk zt vl vh zg zi zw vg zo ze vc vr vt vo (bI vm) vp va vb vd vq zd vz :: aI cI zs 28 f9 :: X) := pm_D hD 2 [0, 1] rfl rfl rfl
        refine lv_if_ne (tgt := 76) hx hb dX9_doBuild_59 (by decide) (fun c_59 => ?_) (fun c_59 => ?_)
        · refine lv_aload_n hx hb dX9_doBuild_76 rfl (lv_at hl 0 rfl) ?_
          refine lv_iload_n hx hb dX9_doBuild_77 rfl (lv_at hl 1 rfl) ?_
          refine lv_iload_n hx hb dX9_doBuild_78 rfl (lv_at hl 2 rfl) ?_
          refine cV_i CF hK hN hA hS (cut_of 2 [0, 1] hP hD rfl rfl rfl) (n_isBlock l D cI cZ cW cJ A (X) mo zs zv zl zk zt zg zi zw zo ze zd vn vl vh vg vc vr vt vo vp va vb vd vq vm vz f9 (flipL S.1 ac ar, S.2.1, (S.2.2.1.1, j9), S.2.2.2) (nI ac) (nI ar) hA9) (cwV 2 hts gX9_doBuild_X9_isBlock rfl rfl rfl (by decide +kernel) ⟨Nat.le_of_ble_eq_true rfl, Nat.le_of_ble_eq_true rfl⟩) (As := [.int (nI ac), .int (nI ar)]) (rest := []) (ci := 9) (q0 := 0) rfl rfl rfl hl.1 rfl (Nat.le_of_ble_eq_true rfl) dX9_doBuild_79 ⟨Nat.le_of_ble_eq_true rfl, Nat.le_of_ble_eq_true rfl⟩ (fun r_79 _ H locs hq hP hD hS => ?_)
          have hq : r_79 = bI (Bk (flipL S.1 ac ar, S.2.1, (S.2.2.1.1, j9), S.2.2.2).1 (nI ac) (nI ar)) := hq
          subst hq
          have hP : va_P D vwCl (oX9 mo zs zv vn zl zk zt vl vh zg zi zw vg zo ze vc vr vt vo (bI vm) vp va vb vd vq zd vz :: aI cI zs 28 f9 :: X) H := pm_P hP 2 [0, 1] rfl
          have hD : va_D A (oX9 mo zs zv vn zl zk zt vl vh zg zi zw vg zo ze vc vr vt vo (bI vm) vp va vb vd vq zd vz :: aI cI zs 28 f9 :: X) := pm_D hD 2 [0, 1] rfl rfl rfl
          refine lv_if_eq (tgt := 89) hx hb dX9_doBuild_82 (by decide) (fun c_82 => ?_) (fun c_82 => ?_)
          · refine lv_iconst (v := 0) hx hb dX9_doBuild_89 (by decide) ?_
            have hF : fallB (Bk (flipL S.1 ac ar)) (nI S.2.2.1.1) 10 (nI S.2.2.1.2) = nI j9 := hv9.symm.trans (fall_stop hjn (bt_c c_59))
            exact W.iret (v := 0) hx hb hr (fun t9 ht9 hW9 => ⟨⟨0, f9, rfl, by rw [build_do hne hj10 hF]; exact ⟨by show _ = bI _; rw [bf_c c_82]; rfl, hA9⟩, by rw [ht9]; exact hP, hD⟩, hS.F ht9⟩) hS.2.2 dX9_doBuild_90
          · refine lv_iconst (v := 1) hx hb dX9_doBuild_85 (by decide) ?_
            refine lv_goto (tgt := 90) hx hb dX9_doBuild_86 (by decide) ?_
            have hF : fallB (Bk (flipL S.1 ac ar)) (nI S.2.2.1.1) 10 (nI S.2.2.1.2) = nI j9 := hv9.symm.trans (fall_stop hjn (bt_c c_59))
            exact W.iret (v := 1) hx hb hr (fun t9 ht9 hW9 => ⟨⟨1, f9, rfl, by rw [build_do hne hj10 hF]; exact ⟨by show _ = bI _; rw [bt_c c_82]; rfl, hA9⟩, by rw [ht9]; exact hP, hD⟩, hS.F ht9⟩) hS.2.2 dX9_doBuild_90
        · obtain ⟨m9, rfl, hj1, hs9, hfr2, hst2⟩ := fall_step (Bk_OutB (flipL S.1 ac ar)) hj10 hjn hfr (bf_c c_59)
          refine lv_aload_n hx hb dX9_doBuild_62 rfl (lv_at hl 0 rfl) ?_
          refine va_get (D := D) (ci := 9) (v := .ref zs) (C := RX9) (T := TX9) (N := 26) hx hb hts hiX9 hown hK hP 0 rfl rfl 0 (by decide) (hts (.fieldLink RX9 7 "LedgeLeapsModel" "s" "[I") (List.mem_of_getElem? (i := 1) rfl)) (fun _ h9 => h9) rfl dX9_doBuild_63 ?_
          refine lv_bipush (v := 24) hx hb dX9_doBuild_66 (by decide) ?_
          refine lv_dup2_11 hx hb dX9_doBuild_68 rfl rfl ?_
          refine va_iald hx hb hK hP 1 0 rfl rfl (show ¬ ((24 : Int32) < 0 ∨ 28 ≤ (24 : Int32).toNatClampNeg) by decide) dX9_doBuild_69 ?_
          refine top_i (y := (f9 24)) (rfl) ?_
          refine top_i (y := (nI j9)) hA9.2.2.1.2 ?_
          refine lv_iconst (v := 1) hx hb dX9_doBuild_70 (by decide) ?_
          refine lv_isub hx hb dX9_doBuild_71 ?_
          refine va_iast hx hb hK hP hD hS 1 0 rfl rfl (show ¬ ((24 : Int32) < 0 ∨ 28 ≤ (24 : Int32).toNatClampNeg) by decide) dX9_doBuild_72 (fun H locs hP hD hS => ?_)
          have hP : va_P D vwCl (oX9 mo zs zv vn zl zk zt vl vh zg zi zw vg zo ze vc vr vt vo (bI vm) vp va vb vd vq zd vz :: aI cI zs 28 (upd f9 24 ((nI j9) - 1)) :: X) H := hP
          have hD : va_D A (oX9 mo zs zv vn zl zk zt vl vh zg zi zw vg zo ze vc vr vt vo (bI vm) vp va vb vd vq zd vz :: aI cI zs 28 (upd f9 24 ((nI j9) - 1)) :: X) := hD
          refine lv_goto (tgt := 41) hx hb dX9_doBuild_73 (by decide) ?_
          exact ih_41 (j9 - 1) m9 (upd f9 24 ((nI j9) - 1)) (by omega) (hA9.row (r := j9 - 1) hs9) (by omega) (by omega) (hfr2) (hst2.symm.trans hv9) _ _ (hP) (hD) hS _ (lv_sub hl [0, 1, 2] rfl)
    exact loop_41 _ S.2.2.1.2 10 (upd gs ac ((gs ac) ^^^ ((1 : Int32) <<< ((nI ar) &&& 31)))) (Nat.lt_succ_self _) (hS0.flip hac har) (hWf.2.2.1) (hWf.2.2.1) (by have hf := hWf.free; rw [Bk_in _ hWf.2.1 hWf.2.2.1] at hf ⊢; unfold flipL; rw [if_neg (fun q => hne ⟨q.1.symm, q.2.symm⟩)]; exact hf) (rfl) _ _ hP hD hS _ (lv_sub hl [0, 1, 2] rfl)
  · refine lv_iload_n hx hb dX9_doBuild_11 rfl (lv_at hl 2 rfl) ?_
    refine lv_aload_n hx hb dX9_doBuild_12 rfl (lv_at hl 0 rfl) ?_
    refine va_get (D := D) (ci := 9) (v := .ref zs) (C := RX9) (T := TX9) (N := 26) hx hb hts hiX9 hown hK hP 0 rfl rfl 0 (by decide) (hts (.fieldLink RX9 7 "LedgeLeapsModel" "s" "[I") (List.mem_of_getElem? (i := 1) rfl)) (fun _ h9 => h9) rfl dX9_doBuild_13 ?_
    refine lv_bipush (v := 24) hx hb dX9_doBuild_16 (by decide) ?_
    refine va_iald hx hb hK hP 1 0 rfl rfl (show ¬ ((24 : Int32) < 0 ∨ 28 ≤ (24 : Int32).toNatClampNeg) by decide) dX9_doBuild_18 ?_
    refine top_i (y := (gs 24)) (rfl) ?_
    refine top_i (y := (nI S.2.2.1.2)) hS0.2.2.1.2 ?_
    refine lv_icmp_ne (tgt := 27) hx hb dX9_doBuild_19 (by decide) (fun c_19 => ?_) (fun c_19 => ?_)
    · have hne : ¬ (ac = S.2.2.1.1 ∧ ar = S.2.2.1.2) := fun q => c_19 (by rw [q.2])
      refine lv_aload_n hx hb dX9_doBuild_27 rfl (lv_at hl 0 rfl) ?_
      refine va_get (D := D) (ci := 9) (v := .ref zs) (C := RX9) (T := TX9) (N := 26) hx hb hts hiX9 hown hK hP 0 rfl rfl 0 (by decide) (hts (.fieldLink RX9 7 "LedgeLeapsModel" "s" "[I") (List.mem_of_getElem? (i := 1) rfl)) (fun _ h9 => h9) rfl dX9_doBuild_28 ?_
      refine lv_iconst (v := 0) hx hb dX9_doBuild_31 (by decide) ?_
      refine lv_iload_n hx hb dX9_doBuild_32 rfl (lv_at hl 1 rfl) ?_
      refine lv_iadd hx hb dX9_doBuild_33 ?_
      refine top_i (y := (nI ac)) (z_add ac) ?_
      refine lv_dup2_11 hx hb dX9_doBuild_34 rfl rfl ?_
      refine va_iald hx hb hK hP 1 0 rfl rfl (vp_ix (e := ac) (rfl) (by omega) (by decide)) dX9_doBuild_35 ?_
      refine top_i (y := (gs ac)) (ld_ix (f := gs) (x := (nI ac)) (e := ac) (n := 28) (rfl) (by omega) (by decide)) ?_
      refine lv_iconst (v := 1) hx hb dX9_doBuild_36 (by decide) ?_
      refine lv_iload_n hx hb dX9_doBuild_37 rfl (lv_at hl 2 rfl) ?_
      refine lv_ishl hx hb dX9_doBuild_38 ?_
      refine lv_ixor hx hb dX9_doBuild_39 ?_
      refine va_iast hx hb hK hP hD hS 1 0 rfl rfl (vp_ix (e := ac) (rfl) (by omega) (by decide)) dX9_doBuild_40 (fun H locs hP hD hS => ?_)
      rw [cl_ix (x := (nI ac)) (e := ac) (n := 28) (rfl) (by omega) (by decide)] at hP hD
      have hP : va_P D vwCl (oX9 mo zs zv vn zl zk zt vl vh zg zi zw vg zo ze vc vr vt vo (bI vm) vp va vb vd vq zd vz :: aI cI zs 28 (upd gs ac ((gs ac) ^^^ ((1 : Int32) <<< ((nI ar) &&& 31)))) :: X) H := hP
      have hD : va_D A (oX9 mo zs zv vn zl zk zt vl vh zg zi zw vg zo ze vc vr vt vo (bI vm) vp va vb vd vq zd vz :: aI cI zs 28 (upd gs ac ((gs ac) ^^^ ((1 : Int32) <<< ((nI ar) &&& 31)))) :: X) := hD
      have loop_41 : ∀ (nfu : Nat) (j9 n9 : Nat) (f9 : Nat → Int32) (hn_41 : j9 < nfu) (hA9 : AbsM (flipL S.1 ac ar, S.2.1, (S.2.2.1.1, j9), S.2.2.2) f9) (hj10 : j9 < 10) (hjn : j9 < n9) (hfr : (Bk (flipL S.1 ac ar)) (nI S.2.2.1.1) (nI j9) = false) (hv9 : fallB (Bk (flipL S.1 ac ar)) (nI S.2.2.1.1) n9 (nI j9) = fallB (Bk (flipL S.1 ac ar)) (nI S.2.2.1.1) 10 (nI S.2.2.1.2)) (H : Heap) (locs : List Loc) (hP : va_P D vwCl (oX9 mo zs zv vn zl zk zt vl vh zg zi zw vg zo ze vc vr vt vo (bI vm) vp va vb vd vq zd vz :: aI cI zs 28 f9 :: X) H) (hD : va_D A (oX9 mo zs zv vn zl zk zt vl vh zg zi zw vg zo ze vc vr vt vo (bI vm) vp va vb vd vq zd vz :: aI cI zs 28 f9 :: X)) (hS : va_S A s.heap H locs) (ls : Array Slot) (hl : lv_has ls 3 [(0, .ref mo), (1, .int (nI ac)), (2, .int (nI ar))]), W p l e ({ frames := 4, cells := 0, slots := 0, locals := 87 } : Room) s m (([.ref mo, .int (nI ac), .int (nI ar)] : List Value).toArray) below meth c H locs 0 0 (MQ below (va_Qi (fun (r : Int32) (u : Nat → Int32) => r = (buildK S ac ar).2 ∧ AbsM (buildK S ac ar).1 u) (fun (u : Nat → Int32) t => wq D A (oX9 mo zs zv vn zl zk zt vl vh zg zi zw vg zo ze vc vr vt vo (bI vm) vp va vb vd vq zd vz :: aI cI zs 28 u :: X) t) A) (([.ref mo, .int (nI ac), .int (nI ar)] : List Value).toArray) s 0 0 A) (F0 m 41 ls []) := by
        intro nfu
        induction nfu with
        | zero => intro j9 n9 f9 hn_41; exact absurd hn_41 (Nat.not_lt_zero _)
        | succ nfu ih_41 =>
          intro j9 n9 f9 hn_41 hA9 hj10 hjn hfr hv9 H locs hP hD hS ls hl
          refine lv_aload_n hx hb dX9_doBuild_41 rfl (lv_at hl 0 rfl) ?_
          refine lv_aload_n hx hb dX9_doBuild_42 rfl (lv_at hl 0 rfl) ?_
          refine va_get (D := D) (ci := 9) (v := .ref zs) (C := RX9) (T := TX9) (N := 26) hx hb hts hiX9 hown hK hP 0 rfl rfl 0 (by decide) (hts (.fieldLink RX9 7 "LedgeLeapsModel" "s" "[I") (List.mem_of_getElem? (i := 1) rfl)) (fun _ h9 => h9) rfl dX9_doBuild_43 ?_
          refine lv_bipush (v := 23) hx hb dX9_doBuild_46 (by decide) ?_
          refine va_iald hx hb hK hP 1 0 rfl rfl (show ¬ ((23 : Int32) < 0 ∨ 28 ≤ (23 : Int32).toNatClampNeg) by decide) dX9_doBuild_48 ?_
          refine top_i (y := (f9 23)) (rfl) ?_
          refine top_i (y := (nI S.2.2.1.1)) hA9.2.2.1.1 ?_
          refine lv_aload_n hx hb dX9_doBuild_49 rfl (lv_at hl 0 rfl) ?_
          refine va_get (D := D) (ci := 9) (v := .ref zs) (C := RX9) (T := TX9) (N := 26) hx hb hts hiX9 hown hK hP 0 rfl rfl 0 (by decide) (hts (.fieldLink RX9 7 "LedgeLeapsModel" "s" "[I") (List.mem_of_getElem? (i := 1) rfl)) (fun _ h9 => h9) rfl dX9_doBuild_50 ?_
          refine lv_bipush (v := 24) hx hb dX9_doBuild_53 (by decide) ?_
          refine va_iald hx hb hK hP 1 0 rfl rfl (show ¬ ((24 : Int32) < 0 ∨ 28 ≤ (24 : Int32).toNatClampNeg) by decide) dX9_doBuild_55 ?_
          refine top_i (y := (f9 24)) (rfl) ?_
          refine top_i (y := (nI j9)) hA9.2.2.1.2 ?_
          refine cV_i CF hK hN hA hS (cut_of 2 [0, 1] hP hD rfl rfl rfl) (n_canStand l D cI cZ cW cJ A (X) mo zs zv zl zk zt zg zi zw zo ze zd vn vl vh vg vc vr vt vo vp va vb vd vq vm vz f9 (flipL S.1 ac ar, S.2.1, (S.2.2.1.1, j9), S.2.2.2) (nI S.2.2.1.1) (nI j9) hA9) (cwV 2 hts gX9_doBuild_X9_canStand rfl rfl rfl (by decide +kernel) ⟨Nat.le_of_ble_eq_true rfl, Nat.le_of_ble_eq_true rfl⟩) (As := [.int (nI S.2.2.1.1), .int (nI j9)]) (rest := []) (ci := 9) (q0 := 0) rfl rfl rfl hl.1 rfl (Nat.le_of_ble_eq_true rfl) dX9_doBuild_56 ⟨Nat.le_of_ble_eq_true rfl, Nat.le_of_ble_eq_true rfl⟩ (fun r_56 _ H locs hq hP hD hS => ?_)
          have hq : r_56 = bI (stB (Bk (flipL S.1 ac ar, S.2.1, (S.2.2.1.1, j9), S.2.2.2).1) (nI S.2.2.1.1) (nI j9)) := hq
          subst hq
          have hP : va_P D vwCl (oX9 mo zs zv vn zl zk zt vl vh zg zi zw vg zo ze vc vr vt vo (bI vm) vp va vb vd vq zd vz :: aI cI zs 28 f9 :: X) H := pm_P hP 2 [0, 1] rfl
          have hD : va_D A (oX9 mo zs zv vn zl zk zt vl vh zg zi zw vg zo ze vc vr vt vo (bI vm) vp va vb vd vq zd vz :: aI cI zs 28 f9 :: X) := pm_D hD 2 [0, 1] rfl rfl rfl
          refine lv_if_ne (tgt := 76) hx hb dX9_doBuild_59 (by decide) (fun c_59 => ?_) (fun c_59 => ?_)
          · refine lv_aload_n hx hb dX9_doBuild_76 rfl (lv_at hl 0 rfl) ?_
            refine lv_iload_n hx hb dX9_doBuild_77 rfl (lv_at hl 1 rfl) ?_
            refine lv_iload_n hx hb dX9_doBuild_78 rfl (lv_at hl 2 rfl) ?_
            refine cV_i CF hK hN hA hS (cut_of 2 [0, 1] hP hD rfl rfl rfl) (n_isBlock l D cI cZ cW cJ A (X) mo zs zv zl zk zt zg zi zw zo ze zd vn vl vh vg vc vr vt vo vp va vb vd vq vm vz f9 (flipL S.1 ac ar, S.2.1, (S.2.2.1.1, j9), S.2.2.2) (nI ac) (nI ar) hA9) (cwV 2 hts gX9_doBuild_X9_isBlock rfl rfl rfl (by decide +kernel) ⟨Nat.le_of_ble_eq_true rfl, Nat.le_of_ble_eq_true rfl⟩) (As := [.int (nI ac), .int (nI ar)]) (rest := []) (ci := 9) (q0 := 0) rfl rfl rfl hl.1 rfl (Nat.le_of_ble_eq_true rfl) dX9_doBuild_79 ⟨Nat.le_of_ble_eq_true rfl, Nat.le_of_ble_eq_true rfl⟩ (fun r_79 _ H locs hq hP hD hS => ?_)
            have hq : r_79 = bI (Bk (flipL S.1 ac ar, S.2.1, (S.2.2.1.1, j9), S.2.2.2).1 (nI ac) (nI ar)) := hq
            subst hq
            have hP : va_P D vwCl (oX9 mo zs zv vn zl zk zt vl vh zg zi zw vg zo ze vc vr vt vo (bI vm) vp va vb vd vq zd vz :: aI cI zs 28 f9 :: X) H := pm_P hP 2 [0, 1] rfl
            have hD : va_D A (oX9 mo zs zv vn zl zk zt vl vh zg zi zw vg zo ze vc vr vt vo (bI vm) vp va vb vd vq zd vz :: aI cI zs 28 f9 :: X) := pm_D hD 2 [0, 1] rfl rfl rfl
            refine lv_if_eq (tgt := 89) hx hb dX9_doBuild_82 (by decide) (fun c_82 => ?_) (fun c_82 => ?_)
            · refine lv_iconst (v := 0) hx hb dX9_doBuild_89 (by decide) ?_
              have hF : fallB (Bk (flipL S.1 ac ar)) (nI S.2.2.1.1) 10 (nI S.2.2.1.2) = nI j9 := hv9.symm.trans (fall_stop hjn (bt_c c_59))
              exact W.iret (v := 0) hx hb hr (fun t9 ht9 hW9 => ⟨⟨0, f9, rfl, by rw [build_do hne hj10 hF]; exact ⟨by show _ = bI _; rw [bf_c c_82]; rfl, hA9⟩, by rw [ht9]; exact hP, hD⟩, hS.F ht9⟩) hS.2.2 dX9_doBuild_90
            · refine lv_iconst (v := 1) hx hb dX9_doBuild_85 (by decide) ?_
              refine lv_goto (tgt := 90) hx hb dX9_doBuild_86 (by decide) ?_
              have hF : fallB (Bk (flipL S.1 ac ar)) (nI S.2.2.1.1) 10 (nI S.2.2.1.2) = nI j9 := hv9.symm.trans (fall_stop hjn (bt_c c_59))
              exact W.iret (v := 1) hx hb hr (fun t9 ht9 hW9 => ⟨⟨1, f9, rfl, by rw [build_do hne hj10 hF]; exact ⟨by show _ = bI _; rw [bt_c c_82]; rfl, hA9⟩, by rw [ht9]; exact hP, hD⟩, hS.F ht9⟩) hS.2.2 dX9_doBuild_90
          · obtain ⟨m9, rfl, hj1, hs9, hfr2, hst2⟩ := fall_step (Bk_OutB (flipL S.1 ac ar)) hj10 hjn hfr (bf_c c_59)
            refine lv_aload_n hx hb dX9_doBuild_62 rfl (lv_at hl 0 rfl) ?_
            refine va_get (D := D) (ci := 9) (v := .ref zs) (C := RX9) (T := TX9) (N := 26) hx hb hts hiX9 hown hK hP 0 rfl rfl 0 (by decide) (hts (.fieldLink RX9 7 "LedgeLeapsModel" "s" "[I") (List.mem_of_getElem? (i := 1) rfl)) (fun _ h9 => h9) rfl dX9_doBuild_63 ?_
            refine lv_bipush (v := 24) hx hb dX9_doBuild_66 (by decide) ?_
            refine lv_dup2_11 hx hb dX9_doBuild_68 rfl rfl ?_
            refine va_iald hx hb hK hP 1 0 rfl rfl (show ¬ ((24 : Int32) < 0 ∨ 28 ≤ (24 : Int32).toNatClampNeg) by decide) dX9_doBuild_69 ?_
            refine top_i (y := (f9 24)) (rfl) ?_
            refine top_i (y := (nI j9)) hA9.2.2.1.2 ?_
            refine lv_iconst (v := 1) hx hb dX9_doBuild_70 (by decide) ?_
            refine lv_isub hx hb dX9_doBuild_71 ?_
            refine va_iast hx hb hK hP hD hS 1 0 rfl rfl (show ¬ ((24 : Int32) < 0 ∨ 28 ≤ (24 : Int32).toNatClampNeg) by decide) dX9_doBuild_72 (fun H locs hP hD hS => ?_)
            have hP : va_P D vwCl (oX9 mo zs zv vn zl zk zt vl vh zg zi zw vg zo ze vc vr vt vo (bI vm) vp va vb vd vq zd vz :: aI cI zs 28 (upd f9 24 ((nI j9) - 1)) :: X) H := hP
            have hD : va_D A (oX9 mo zs zv vn zl zk zt vl vh zg zi zw vg zo ze vc vr vt vo (bI vm) vp va vb vd vq zd vz :: aI cI zs 28 (upd f9 24 ((nI j9) - 1)) :: X) := hD
            refine lv_goto (tgt := 41) hx hb dX9_doBuild_73 (by decide) ?_
            exact ih_41 (j9 - 1) m9 (upd f9 24 ((nI j9) - 1)) (by omega) (hA9.row (r := j9 - 1) hs9) (by omega) (by omega) (hfr2) (hst2.symm.trans hv9) _ _ (hP) (hD) hS _ (lv_sub hl [0, 1, 2] rfl)
      exact loop_41 _ S.2.2.1.2 10 (upd gs ac ((gs ac) ^^^ ((1 : Int32) <<< ((nI ar) &&& 31)))) (Nat.lt_succ_self _) (hS0.flip hac har) (hWf.2.2.1) (hWf.2.2.1) (by have hf := hWf.free; rw [Bk_in _ hWf.2.1 hWf.2.2.1] at hf ⊢; unfold flipL; rw [if_neg (fun q => hne ⟨q.1.symm, q.2.symm⟩)]; exact hf) (rfl) _ _ hP hD hS _ (lv_sub hl [0, 1, 2] rfl)
    · refine lv_aload_n hx hb dX9_doBuild_22 rfl (lv_at hl 0 rfl) ?_
      refine cV_i CF hK hN hA hS (cut_of 2 [0, 1] hP hD rfl rfl rfl) (n_refuse l D cI cZ cW cJ A (X) mo zs zv zl zk zt zg zi zw zo ze zd vn vl vh vg vc vr vt vo vp va vb vd vq vm vz gs S hS0) (cwV 0 hts gX9_doBuild_X9_refuse rfl rfl rfl (by decide +kernel) ⟨Nat.le_of_ble_eq_true rfl, Nat.le_of_ble_eq_true rfl⟩) (As := []) (rest := []) (ci := 9) (q0 := 0) rfl rfl rfl hl.1 rfl (Nat.le_of_ble_eq_true rfl) dX9_doBuild_23 ⟨Nat.le_of_ble_eq_true rfl, Nat.le_of_ble_eq_true rfl⟩ (fun r_23 u_23 H locs hq hP hD hS => ?_)
      have hq_23 : r_23 = (-1) ∧ AbsM (refK S) u_23 := hq
      have hr_23 : r_23 = (-1) := hq_23.1
      subst hr_23
      have hP : va_P D vwCl (oX9 mo zs zv vn zl zk zt vl vh zg zi zw vg zo ze vc vr vt vo (bI vm) vp va vb vd vq zd vz :: aI cI zs 28 u_23 :: X) H := pm_P hP 2 [0, 1] rfl
      have hD : va_D A (oX9 mo zs zv vn zl zk zt vl vh zg zi zw vg zo ze vc vr vt vo (bI vm) vp va vb vd vq zd vz :: aI cI zs 28 u_23 :: X) := pm_D hD 2 [0, 1] rfl rfl rfl
      exact W.iret (v := ((-1))) hx hb hr (fun t9 ht9 hW9 => ⟨⟨((-1)), u_23, rfl, by rw [build_no ⟨nI_inj (by omega) (by have := hWf.2.1; omega) c_8, nI_inj (by omega) (by have := hWf.2.2.1; omega) c_19⟩]; exact hq_23, by rw [ht9]; exact hP, hD⟩, hS.F ht9⟩) hS.2.2 dX9_doBuild_26
set_option maxHeartbeats 4000000 in
set_option maxRecDepth 100000 in
theorem n_doWalk (l : Launch) (D : va_G) (cI cZ cW cJ : ClassId) (A : Nat → Prop) (X : va_W) (mo zs zv zl zk zt zg zi zw zo ze zd : Nat) (vn vl vh vg vc vr vt vo vp va vb vd vq : Int32) (vm : Bool) (vz : Int64) (gs : Nat → Int32) (S : KS) (xd : Int32) (hS0 : AbsM S gs) : Met l yX9_doWalk wsX9_doWalk ({ frames := 4, cells := 0, slots := 0, locals := 87 }) (va_Pc [.ref mo, .int xd] (wd D (tyL cI cZ cW cJ) A (oX9 mo zs zv vn zl zk zt vl vh zg zi zw vg zo ze vc vr vt vo (bI vm) vp va vb vd vq zd vz :: aI cI zs 28 gs :: X))) (va_Qi (fun (r : Int32) (u : Nat → Int32) => r = (walkK S xd).2 ∧ AbsM (walkK S xd).1 u) (fun (u : Nat → Int32) t => wq D A (oX9 mo zs zv vn zl zk zt vl vh zg zi zw vg zo ze vc vr vt vo (bI vm) vp va vb vd vq zd vz :: aI cI zs 28 u :: X) t) A) 0 0 A := by
  refine Met.ofW (cc := cX9_doWalk) (maxL := 2) (ret := (some .int)) (by decide) rfl ?_
  intro p e s m args below meth c s₁ B hml hv
  obtain ⟨rfl, hsz9, hP, hK, hD, hN⟩ := hv
  have hx := B.exec
  have hb := B.bytes
  have hr := B.returns
  have hts := atoms_spec (ws := wsX9_doWalk) B.pre
  have hown : s.vm.findClass RX9 = some m.cls := findClass_of_methodNamed B.named
  have hlocks := B.notSynchronized
  have CF : CallFix p m c cX9_doWalk 2 s _ wsX9_doWalk RX9 := ⟨hx, hb, hml, hown, hts⟩
  have hA : ∀ q : Nat, s.heap.size ≤ q → A q := hsz9
  have hS : va_S A s.heap s.heap [] := va_S.rf
  have hiX9 : ∀ w ∈ u_ws RX9 TX9 26, w ∈ wsX9_doWalk := fun _ h => List.mem_cons_of_mem _ (List.mem_append_right _ (h))
  have hl := lv_entry ([.ref mo, .int xd]) (n := 2) (Nat.le_of_ble_eq_true rfl)
  rw [lg_entry_eq]
  generalize (lg_sl ([.ref mo, .int xd]) ++ List.replicate (2 - (lg_sl ([.ref mo, .int xd])).length) Slot.unset).toArray = ls at hl ⊢
  have hl : lv_has ls 2 [(0, .ref mo), (1, .int xd)] := hl
  show W p l e ({ frames := 4, cells := 0, slots := 0, locals := 87 } : Room) s m (([.ref mo, .int xd] : List Value).toArray) below meth c s.heap [] 0 0 (MQ below (va_Qi (fun (r : Int32) (u : Nat → Int32) => r = (walkK S xd).2 ∧ AbsM (walkK S xd).1 u) (fun (u : Nat → Int32) t => wq D A (oX9 mo zs zv vn zl zk zt vl vh zg zi zw vg zo ze vc vr vt vo (bI vm) vp va vb vd vq zd vz :: aI cI zs 28 u :: X) t) A) (([.ref mo, .int xd] : List Value).toArray) s 0 0 A) (F0 m 0 ls [])
  refine lv_aload_n hx hb dX9_doWalk_0 rfl (lv_at hl 0 rfl) ?_
  refine lv_aload_n hx hb dX9_doWalk_1 rfl (lv_at hl 0 rfl) ?_
  refine va_get (D := D) (ci := 9) (v := .ref zs) (C := RX9) (T := TX9) (N := 26) hx hb hts hiX9 hown hK hP 0 rfl rfl 0 (by decide) (hts (.fieldLink RX9 7 "LedgeLeapsModel" "s" "[I") (List.mem_of_getElem? (i := 1) rfl)) (fun _ h9 => h9) rfl dX9_doWalk_2 ?_
  refine lv_bipush (v := 23) hx hb dX9_doWalk_5 (by decide) ?_
  refine va_iald hx hb hK hP 1 0 rfl rfl (show ¬ ((23 : Int32) < 0 ∨ 28 ≤ (23 : Int32).toNatClampNeg) by decide) dX9_doWalk_7 ?_
  refine top_i (y := (gs 23)) (rfl) ?_
  refine top_i (y := (nI S.2.2.1.1)) hS0.2.2.1.1 ?_
  refine lv_iload_n hx hb dX9_doWalk_8 rfl (lv_at hl 1 rfl) ?_
  refine lv_iadd hx hb dX9_doWalk_9 ?_
  refine lv_aload_n hx hb dX9_doWalk_10 rfl (lv_at hl 0 rfl) ?_
  refine va_get (D := D) (ci := 9) (v := .ref zs) (C := RX9) (T := TX9) (N := 26) hx hb hts hiX9 hown hK hP 0 rfl rfl 0 (by decide) (hts (.fieldLink RX9 7 "LedgeLeapsModel" "s" "[I") (List.mem_of_getElem? (i := 1) rfl)) (fun _ h9 => h9) rfl dX9_doWalk_11 ?_
  refine lv_bipush (v := 24) hx hb dX9_doWalk_14 (by decide) ?_
  refine va_iald hx hb hK hP 1 0 rfl rfl (show ¬ ((24 : Int32) < 0 ∨ 28 ≤ (24 : Int32).toNatClampNeg) by decide) dX9_doWalk_16 ?_
  refine top_i (y := (gs 24)) (rfl) ?_
  refine top_i (y := (nI S.2.2.1.2)) hS0.2.2.1.2 ?_
  refine cV_i CF hK hN hA hS (cut_of 2 [0, 1] hP hD rfl rfl rfl) (n_canStand l D cI cZ cW cJ A (X) mo zs zv zl zk zt zg zi zw zo ze zd vn vl vh vg vc vr vt vo vp va vb vd vq vm vz gs S ((nI S.2.2.1.1) + xd) (nI S.2.2.1.2) hS0) (cwV 2 hts gX9_doWalk_X9_canStand rfl rfl rfl (by decide +kernel) ⟨Nat.le_of_ble_eq_true rfl, Nat.le_of_ble_eq_true rfl⟩) (As := [.int ((nI S.2.2.1.1) + xd), .int (nI S.2.2.1.2)]) (rest := []) (ci := 9) (q0 := 0) rfl rfl rfl hl.1 rfl (Nat.le_of_ble_eq_true rfl) dX9_doWalk_17 ⟨Nat.le_of_ble_eq_true rfl, Nat.le_of_ble_eq_true rfl⟩ (fun r_17 _ H locs hq hP hD hS => ?_)
  have hq : r_17 = bI (stB (Bk S.1) ((nI S.2.2.1.1) + xd) (nI S.2.2.1.2)) := hq
  subst hq
  have hP : va_P D vwCl (oX9 mo zs zv vn zl zk zt vl vh zg zi zw vg zo ze vc vr vt vo (bI vm) vp va vb vd vq zd vz :: aI cI zs 28 gs :: X) H := pm_P hP 2 [0, 1] rfl
  have hD : va_D A (oX9 mo zs zv vn zl zk zt vl vh zg zi zw vg zo ze vc vr vt vo (bI vm) vp va vb vd vq zd vz :: aI cI zs 28 gs :: X) := pm_D hD 2 [0, 1] rfl rfl rfl
  refine lv_if_ne (tgt := 28) hx hb dX9_doWalk_20 (by decide) (fun c_20 => ?_) (fun c_20 => ?_)
  · obtain ⟨c9, -, hc9, -, e9, -⟩ := st_rng (bt_c c_20)
    refine lv_aload_n hx hb dX9_doWalk_28 rfl (lv_at hl 0 rfl) ?_
    refine va_get (D := D) (ci := 9) (v := .ref zs) (C := RX9) (T := TX9) (N := 26) hx hb hts hiX9 hown hK hP 0 rfl rfl 0 (by decide) (hts (.fieldLink RX9 7 "LedgeLeapsModel" "s" "[I") (List.mem_of_getElem? (i := 1) rfl)) (fun _ h9 => h9) rfl dX9_doWalk_29 ?_
    refine lv_bipush (v := 23) hx hb dX9_doWalk_32 (by decide) ?_
    refine lv_dup2_11 hx hb dX9_doWalk_34 rfl rfl ?_
    refine va_iald hx hb hK hP 1 0 rfl rfl (show ¬ ((23 : Int32) < 0 ∨ 28 ≤ (23 : Int32).toNatClampNeg) by decide) dX9_doWalk_35 ?_
    refine top_i (y := (gs 23)) (rfl) ?_
    refine top_i (y := (nI S.2.2.1.1)) hS0.2.2.1.1 ?_
    refine lv_iload_n hx hb dX9_doWalk_36 rfl (lv_at hl 1 rfl) ?_
    refine lv_iadd hx hb dX9_doWalk_37 ?_
    refine va_iast hx hb hK hP hD hS 1 0 rfl rfl (show ¬ ((23 : Int32) < 0 ∨ 28 ≤ (23 : Int32).toNatClampNeg) by decide) dX9_doWalk_38 (fun H locs hP hD hS => ?_)
    have hP : va_P D vwCl (oX9 mo zs zv vn zl zk zt vl vh zg zi zw vg zo ze vc vr vt vo (bI vm) vp va vb vd vq zd vz :: aI cI zs 28 (upd gs 23 ((nI S.2.2.1.1) + xd)) :: X) H := hP
    have hD : va_D A (oX9 mo zs zv vn zl zk zt vl vh zg zi zw vg zo ze vc vr vt vo (bI vm) vp va vb vd vq zd vz :: aI cI zs 28 (upd gs 23 ((nI S.2.2.1.1) + xd)) :: X) := hD
    refine lv_aload_n hx hb dX9_doWalk_39 rfl (lv_at hl 0 rfl) ?_
    refine va_get (D := D) (ci := 9) (v := .ref zs) (C := RX9) (T := TX9) (N := 26) hx hb hts hiX9 hown hK hP 0 rfl rfl 0 (by decide) (hts (.fieldLink RX9 7 "LedgeLeapsModel" "s" "[I") (List.mem_of_getElem? (i := 1) rfl)) (fun _ h9 => h9) rfl dX9_doWalk_40 ?_
    refine lv_bipush (v := 23) hx hb dX9_doWalk_43 (by decide) ?_
    refine va_iald hx hb hK hP 1 0 rfl rfl (show ¬ ((23 : Int32) < 0 ∨ 28 ≤ (23 : Int32).toNatClampNeg) by decide) dX9_doWalk_45 ?_
    refine top_i (y := ((upd gs 23 ((nI S.2.2.1.1) + xd)) 23)) (rfl) ?_
    refine top_i (y := (nI S.2.2.1.1 + xd)) pk_us ?_
    exact W.iret (v := (nI S.2.2.1.1 + xd)) hx hb hr (fun t9 ht9 hW9 => ⟨⟨(nI S.2.2.1.1 + xd), (upd gs 23 ((nI S.2.2.1.1) + xd)), rfl, by rw [walk_do hc9 e9 (bt_c c_20)]; exact ⟨rfl, hS0.col e9⟩, by rw [ht9]; exact hP, hD⟩, hS.F ht9⟩) hS.2.2 dX9_doWalk_46
  · refine lv_aload_n hx hb dX9_doWalk_23 rfl (lv_at hl 0 rfl) ?_
    refine cV_i CF hK hN hA hS (cut_of 2 [0, 1] hP hD rfl rfl rfl) (n_refuse l D cI cZ cW cJ A (X) mo zs zv zl zk zt zg zi zw zo ze zd vn vl vh vg vc vr vt vo vp va vb vd vq vm vz gs S hS0) (cwV 0 hts gX9_doWalk_X9_refuse rfl rfl rfl (by decide +kernel) ⟨Nat.le_of_ble_eq_true rfl, Nat.le_of_ble_eq_true rfl⟩) (As := []) (rest := []) (ci := 9) (q0 := 0) rfl rfl rfl hl.1 rfl (Nat.le_of_ble_eq_true rfl) dX9_doWalk_24 ⟨Nat.le_of_ble_eq_true rfl, Nat.le_of_ble_eq_true rfl⟩ (fun r_24 u_24 H locs hq hP hD hS => ?_)
    have hq_24 : r_24 = (-1) ∧ AbsM (refK S) u_24 := hq
    have hr_24 : r_24 = (-1) := hq_24.1
    subst hr_24
    have hP : va_P D vwCl (oX9 mo zs zv vn zl zk zt vl vh zg zi zw vg zo ze vc vr vt vo (bI vm) vp va vb vd vq zd vz :: aI cI zs 28 u_24 :: X) H := pm_P hP 2 [0, 1] rfl
    have hD : va_D A (oX9 mo zs zv vn zl zk zt vl vh zg zi zw vg zo ze vc vr vt vo (bI vm) vp va vb vd vq zd vz :: aI cI zs 28 u_24 :: X) := pm_D hD 2 [0, 1] rfl rfl rfl
    exact W.iret (v := ((-1))) hx hb hr (fun t9 ht9 hW9 => ⟨⟨((-1)), u_24, rfl, by rw [walk_no (bf_c c_20)]; exact hq_24, by rw [ht9]; exact hP, hD⟩, hS.F ht9⟩) hS.2.2 dX9_doWalk_27
set_option maxHeartbeats 4000000 in
set_option maxRecDepth 100000 in
theorem n_doLeap (l : Launch) (D : va_G) (cI cZ cW cJ : ClassId) (A : Nat → Prop) (X : va_W) (mo zs zv zl zk zt zg zi zw zo ze zd : Nat) (vn vl vh vg vc vr vt vo vp va vb vd vq : Int32) (vm : Bool) (vz : Int64) (gs : Nat → Int32) (S : KS) (ak : Nat) (xd : Int32) (hS0 : AbsM S gs) (hWf : Wf S) (hak : ak ≤ 3) : Met l yX9_doLeap wsX9_doLeap ({ frames := 6, cells := 0, slots := 0, locals := 140 }) (va_Pc [.ref mo, .int xd, .int (nI ak)] (wd D (tyL cI cZ cW cJ) A (oX9 mo zs zv vn zl zk zt vl vh zg zi zw vg zo ze vc vr vt vo (bI vm) vp va vb vd vq zd vz :: aI cI zs 28 gs :: X))) (va_Qi (fun (r : Int32) (u : (Int32 × Int32 × Int32 × Int32 × Bool) × (Nat → Int32)) => r = (leapK S xd ak).2 ∧ AbsM (leapK S xd ak).1 u.2) (fun (u : (Int32 × Int32 × Int32 × Int32 × Bool) × (Nat → Int32)) t => wq D A (oX9 mo zs zv vn zl zk zt vl vh zg zi zw vg zo ze u.1.1 u.1.2.1 u.1.2.2.1 u.1.2.2.2.1 (bI u.1.2.2.2.2) vp va vb vd vq zd vz :: aI cI zs 28 u.2 :: X) t) A) 0 0 A := by
  refine Met.ofW (cc := cX9_doLeap) (maxL := 3) (ret := (some .int)) (by decide) rfl ?_
  intro p e s m args below meth c s₁ B hml hv
  obtain ⟨rfl, hsz9, hP, hK, hD, hN⟩ := hv
  have hx := B.exec
  have hb := B.bytes
  have hr := B.returns
  have hts := atoms_spec (ws := wsX9_doLeap) B.pre
  have hown : s.vm.findClass RX9 = some m.cls := findClass_of_methodNamed B.named
  have hlocks := B.notSynchronized
  have CF : CallFix p m c cX9_doLeap 3 s _ wsX9_doLeap RX9 := ⟨hx, hb, hml, hown, hts⟩
  have hA : ∀ q : Nat, s.heap.size ≤ q → A q := hsz9
  have hS : va_S A s.heap s.heap [] := va_S.rf
  have hiX9 : ∀ w ∈ u_ws RX9 TX9 26, w ∈ wsX9_doLeap := fun _ h => List.mem_cons_of_mem _ (List.mem_append_right _ (h))
  have hl := lv_entry ([.ref mo, .int xd, .int (nI ak)]) (n := 3) (Nat.le_of_ble_eq_true rfl)
  rw [lg_entry_eq]
  generalize (lg_sl ([.ref mo, .int xd, .int (nI ak)]) ++ List.replicate (3 - (lg_sl ([.ref mo, .int xd, .int (nI ak)])).length) Slot.unset).toArray = ls at hl ⊢
  have hl : lv_has ls 3 [(0, .ref mo), (1, .int xd), (2, .int (nI ak))] := hl
  show W p l e ({ frames := 6, cells := 0, slots := 0, locals := 140 } : Room) s m (([.ref mo, .int xd, .int (nI ak)] : List Value).toArray) below meth c s.heap [] 0 0 (MQ below (va_Qi (fun (r : Int32) (u : (Int32 × Int32 × Int32 × Int32 × Bool) × (Nat → Int32)) => r = (leapK S xd ak).2 ∧ AbsM (leapK S xd ak).1 u.2) (fun (u : (Int32 × Int32 × Int32 × Int32 × Bool) × (Nat → Int32)) t => wq D A (oX9 mo zs zv vn zl zk zt vl vh zg zi zw vg zo ze u.1.1 u.1.2.1 u.1.2.2.1 u.1.2.2.2.1 (bI u.1.2.2.2.2) vp va vb vd vq zd vz :: aI cI zs 28 u.2 :: X) t) A) (([.ref mo, .int xd, .int (nI ak)] : List Value).toArray) s 0 0 A) (F0 m 0 ls [])
  refine lv_aload_n hx hb dX9_doLeap_0 rfl (lv_at hl 0 rfl) ?_
  refine lv_aload_n hx hb dX9_doLeap_1 rfl (lv_at hl 0 rfl) ?_
  refine va_get (D := D) (ci := 9) (v := .ref zs) (C := RX9) (T := TX9) (N := 26) hx hb hts hiX9 hown hK hP 0 rfl rfl 0 (by decide) (hts (.fieldLink RX9 7 "LedgeLeapsModel" "s" "[I") (List.mem_of_getElem? (i := 1) rfl)) (fun _ h9 => h9) rfl dX9_doLeap_2 ?_
  refine lv_bipush (v := 23) hx hb dX9_doLeap_5 (by decide) ?_
  refine va_iald hx hb hK hP 1 0 rfl rfl (show ¬ ((23 : Int32) < 0 ∨ 28 ≤ (23 : Int32).toNatClampNeg) by decide) dX9_doLeap_7 ?_
  refine top_i (y := (gs 23)) (rfl) ?_
  refine top_i (y := (nI S.2.2.1.1)) hS0.2.2.1.1 ?_
  refine lv_aload_n hx hb dX9_doLeap_8 rfl (lv_at hl 0 rfl) ?_
  refine va_get (D := D) (ci := 9) (v := .ref zs) (C := RX9) (T := TX9) (N := 26) hx hb hts hiX9 hown hK hP 0 rfl rfl 0 (by decide) (hts (.fieldLink RX9 7 "LedgeLeapsModel" "s" "[I") (List.mem_of_getElem? (i := 1) rfl)) (fun _ h9 => h9) rfl dX9_doLeap_9 ?_
  refine lv_bipush (v := 24) hx hb dX9_doLeap_12 (by decide) ?_
  refine va_iald hx hb hK hP 1 0 rfl rfl (show ¬ ((24 : Int32) < 0 ∨ 28 ≤ (24 : Int32).toNatClampNeg) by decide) dX9_doLeap_14 ?_
  refine top_i (y := (gs 24)) (rfl) ?_
  refine top_i (y := (nI S.2.2.1.2)) hS0.2.2.1.2 ?_
  refine lv_iload_n hx hb dX9_doLeap_15 rfl (lv_at hl 1 rfl) ?_
  refine lv_iload_n hx hb dX9_doLeap_16 rfl (lv_at hl 2 rfl) ?_
  refine cV_i CF hK hN hA hS (cut_of 2 [0, 1] hP hD rfl rfl rfl) (n_tries l D cI cZ cW cJ A (X) mo zs zv zl zk zt zg zi zw zo ze zd vn vl vh vg vc vr vt vo vp va vb vd vq vm vz gs S S.2.2.1.1 S.2.2.1.2 ak xd hS0 hWf hWf.2.1 hWf.2.2.1 hak) (cwV 4 hts gX9_doLeap_X9_tries rfl rfl rfl (by decide +kernel) ⟨Nat.le_of_ble_eq_true rfl, Nat.le_of_ble_eq_true rfl⟩) (As := [.int (nI S.2.2.1.1), .int (nI S.2.2.1.2), .int xd, .int (nI ak)]) (rest := []) (ci := 9) (q0 := 0) rfl rfl rfl hl.1 rfl (Nat.le_of_ble_eq_true rfl) dX9_doLeap_17 ⟨Nat.le_of_ble_eq_true rfl, Nat.le_of_ble_eq_true rfl⟩ (fun r_17 u_17 H locs hq hP hD hS => ?_)
  have hq_17 : r_17 = bI (!decide (grB (Bk S.1) (nI S.2.2.1.1) (nI S.2.2.1.2) xd < nI ak)) ∧ (¬ grB (Bk S.1) (nI S.2.2.1.1) (nI S.2.2.1.2) xd < nI ak → u_17.1 = (flyR (Bk S.1) S.2.1.1 S.2.1.2.1 S.2.1.2.2 xd S.2.2.1.1 S.2.2.1.2 ak).1 ∧ u_17.2.1 = (flyR (Bk S.1) S.2.1.1 S.2.1.2.1 S.2.1.2.2 xd S.2.2.1.1 S.2.2.1.2 ak).2.1 ∧ u_17.2.2.1 = (flyR (Bk S.1) S.2.1.1 S.2.1.2.1 S.2.1.2.2 xd S.2.2.1.1 S.2.2.1.2 ak).2.2.1 ∧ u_17.2.2.2.1 = (flyR (Bk S.1) S.2.1.1 S.2.1.2.1 S.2.1.2.2 xd S.2.2.1.1 S.2.2.1.2 ak).2.2.2.1 ∧ u_17.2.2.2.2 = (flyR (Bk S.1) S.2.1.1 S.2.1.2.1 S.2.1.2.2 xd S.2.2.1.1 S.2.2.1.2 ak).2.2.2.2.1) := hq
  have hr_17 : r_17 = bI (!decide (grB (Bk S.1) (nI S.2.2.1.1) (nI S.2.2.1.2) xd < nI ak)) := hq_17.1
  subst hr_17
  have hP : va_P D vwCl (oX9 mo zs zv vn zl zk zt vl vh zg zi zw vg zo ze u_17.1 u_17.2.1 u_17.2.2.1 u_17.2.2.2.1 (bI u_17.2.2.2.2) vp va vb vd vq zd vz :: aI cI zs 28 gs :: X) H := pm_P hP 2 [0, 1] rfl
  have hD : va_D A (oX9 mo zs zv vn zl zk zt vl vh zg zi zw vg zo ze u_17.1 u_17.2.1 u_17.2.2.1 u_17.2.2.2.1 (bI u_17.2.2.2.2) vp va vb vd vq zd vz :: aI cI zs 28 gs :: X) := pm_D hD 2 [0, 1] rfl rfl rfl
  refine lv_if_ne (tgt := 28) hx hb dX9_doLeap_20 (by decide) (fun c_20 => ?_) (fun c_20 => ?_)
  · have hng : ¬ grB (Bk S.1) (nI S.2.2.1.1) (nI S.2.2.1.2) xd < nI ak := by have q := bt_c c_20; intro z; rw [decide_eq_true z] at q; cases q
    obtain ⟨f1, f2, -, -, f5⟩ := hq_17.2 hng
    obtain ⟨c9, r9, hc9, hr9, e1, e2, -⟩ := leap_land hWf xd ak
    have g1 : u_17.1 = nI c9 := f1.trans e1
    have g2 : u_17.2.1 = nI r9 := f2.trans e2
    have f1 : u_17.1 = (leapR S xd ak).1 := f1
    have f2 : u_17.2.1 = (leapR S xd ak).2.1 := f2
    have f5 : u_17.2.2.2.2 = (leapR S xd ak).2.2.2.2.1 := f5
    refine lv_aload_n hx hb dX9_doLeap_28 rfl (lv_at hl 0 rfl) ?_
    refine va_get (D := D) (ci := 9) (v := .ref zs) (C := RX9) (T := TX9) (N := 26) hx hb hts hiX9 hown hK hP 0 rfl rfl 0 (by decide) (hts (.fieldLink RX9 7 "LedgeLeapsModel" "s" "[I") (List.mem_of_getElem? (i := 1) rfl)) (fun _ h9 => h9) rfl dX9_doLeap_29 ?_
    refine lv_bipush (v := 23) hx hb dX9_doLeap_32 (by decide) ?_
    refine lv_aload_n hx hb dX9_doLeap_34 rfl (lv_at hl 0 rfl) ?_
    refine va_get (D := D) (ci := 9) (v := .int u_17.1) (C := RX9) (T := TX9) (N := 26) hx hb hts hiX9 hown hK hP 0 rfl rfl 14 (by decide) (hts (.fieldLink RX9 76 "LedgeLeapsModel" "column" "I") (List.mem_of_getElem? (i := 2) rfl)) (fun _ h9 => h9) rfl dX9_doLeap_35 ?_
    refine va_iast hx hb hK hP hD hS 1 0 rfl rfl (show ¬ ((23 : Int32) < 0 ∨ 28 ≤ (23 : Int32).toNatClampNeg) by decide) dX9_doLeap_38 (fun H locs hP hD hS => ?_)
    have hP : va_P D vwCl (oX9 mo zs zv vn zl zk zt vl vh zg zi zw vg zo ze u_17.1 u_17.2.1 u_17.2.2.1 u_17.2.2.2.1 (bI u_17.2.2.2.2) vp va vb vd vq zd vz :: aI cI zs 28 (upd gs 23 u_17.1) :: X) H := hP
    have hD : va_D A (oX9 mo zs zv vn zl zk zt vl vh zg zi zw vg zo ze u_17.1 u_17.2.1 u_17.2.2.1 u_17.2.2.2.1 (bI u_17.2.2.2.2) vp va vb vd vq zd vz :: aI cI zs 28 (upd gs 23 u_17.1) :: X) := hD
    refine lv_aload_n hx hb dX9_doLeap_39 rfl (lv_at hl 0 rfl) ?_
    refine va_get (D := D) (ci := 9) (v := .ref zs) (C := RX9) (T := TX9) (N := 26) hx hb hts hiX9 hown hK hP 0 rfl rfl 0 (by decide) (hts (.fieldLink RX9 7 "LedgeLeapsModel" "s" "[I") (List.mem_of_getElem? (i := 1) rfl)) (fun _ h9 => h9) rfl dX9_doLeap_40 ?_
    refine lv_bipush (v := 24) hx hb dX9_doLeap_43 (by decide) ?_
    refine lv_aload_n hx hb dX9_doLeap_45 rfl (lv_at hl 0 rfl) ?_
    refine va_get (D := D) (ci := 9) (v := .int u_17.2.1) (C := RX9) (T := TX9) (N := 26) hx hb hts hiX9 hown hK hP 0 rfl rfl 15 (by decide) (hts (.fieldLink RX9 79 "LedgeLeapsModel" "row" "I") (List.mem_of_getElem? (i := 3) rfl)) (fun _ h9 => h9) rfl dX9_doLeap_46 ?_
    refine va_iast hx hb hK hP hD hS 1 0 rfl rfl (show ¬ ((24 : Int32) < 0 ∨ 28 ≤ (24 : Int32).toNatClampNeg) by decide) dX9_doLeap_49 (fun H locs hP hD hS => ?_)
    have hP : va_P D vwCl (oX9 mo zs zv vn zl zk zt vl vh zg zi zw vg zo ze u_17.1 u_17.2.1 u_17.2.2.1 u_17.2.2.2.1 (bI u_17.2.2.2.2) vp va vb vd vq zd vz :: aI cI zs 28 (upd (upd gs 23 u_17.1) 24 u_17.2.1) :: X) H := hP
    have hD : va_D A (oX9 mo zs zv vn zl zk zt vl vh zg zi zw vg zo ze u_17.1 u_17.2.1 u_17.2.2.1 u_17.2.2.2.1 (bI u_17.2.2.2.2) vp va vb vd vq zd vz :: aI cI zs 28 (upd (upd gs 23 u_17.1) 24 u_17.2.1) :: X) := hD
    refine lv_aload_n hx hb dX9_doLeap_50 rfl (lv_at hl 0 rfl) ?_
    refine va_get (D := D) (ci := 9) (v := .ref zs) (C := RX9) (T := TX9) (N := 26) hx hb hts hiX9 hown hK hP 0 rfl rfl 0 (by decide) (hts (.fieldLink RX9 7 "LedgeLeapsModel" "s" "[I") (List.mem_of_getElem? (i := 1) rfl)) (fun _ h9 => h9) rfl dX9_doLeap_51 ?_
    refine lv_bipush (v := 25) hx hb dX9_doLeap_54 (by decide) ?_
    refine lv_dup2_11 hx hb dX9_doLeap_56 rfl rfl ?_
    refine va_iald hx hb hK hP 1 0 rfl rfl (show ¬ ((25 : Int32) < 0 ∨ 28 ≤ (25 : Int32).toNatClampNeg) by decide) dX9_doLeap_57 ?_
    refine top_i (y := ((upd (upd gs 23 u_17.1) 24 u_17.2.1) 25)) (rfl) ?_
    refine top_i (y := S.2.2.2.1) ((pk_un (by decide)).trans ((pk_un (by decide)).trans hS0.2.2.2.1)) ?_
    refine lv_iconst (v := 1) hx hb dX9_doLeap_58 (by decide) ?_
    refine lv_iadd hx hb dX9_doLeap_59 ?_
    refine va_iast hx hb hK hP hD hS 1 0 rfl rfl (show ¬ ((25 : Int32) < 0 ∨ 28 ≤ (25 : Int32).toNatClampNeg) by decide) dX9_doLeap_60 (fun H locs hP hD hS => ?_)
    have hP : va_P D vwCl (oX9 mo zs zv vn zl zk zt vl vh zg zi zw vg zo ze u_17.1 u_17.2.1 u_17.2.2.1 u_17.2.2.2.1 (bI u_17.2.2.2.2) vp va vb vd vq zd vz :: aI cI zs 28 (upd (upd (upd gs 23 u_17.1) 24 u_17.2.1) 25 (S.2.2.2.1 + 1)) :: X) H := hP
    have hD : va_D A (oX9 mo zs zv vn zl zk zt vl vh zg zi zw vg zo ze u_17.1 u_17.2.1 u_17.2.2.1 u_17.2.2.2.1 (bI u_17.2.2.2.2) vp va vb vd vq zd vz :: aI cI zs 28 (upd (upd (upd gs 23 u_17.1) 24 u_17.2.1) 25 (S.2.2.2.1 + 1)) :: X) := hD
    refine lv_aload_n hx hb dX9_doLeap_61 rfl (lv_at hl 0 rfl) ?_
    refine va_get (D := D) (ci := 9) (v := .ref zs) (C := RX9) (T := TX9) (N := 26) hx hb hts hiX9 hown hK hP 0 rfl rfl 0 (by decide) (hts (.fieldLink RX9 7 "LedgeLeapsModel" "s" "[I") (List.mem_of_getElem? (i := 1) rfl)) (fun _ h9 => h9) rfl dX9_doLeap_62 ?_
    refine lv_bipush (v := 26) hx hb dX9_doLeap_65 (by decide) ?_
    refine lv_dup2_11 hx hb dX9_doLeap_67 rfl rfl ?_
    refine va_iald hx hb hK hP 1 0 rfl rfl (show ¬ ((26 : Int32) < 0 ∨ 28 ≤ (26 : Int32).toNatClampNeg) by decide) dX9_doLeap_68 ?_
    refine top_i (y := ((upd (upd (upd gs 23 u_17.1) 24 u_17.2.1) 25 (S.2.2.2.1 + 1)) 26)) (rfl) ?_
    refine top_i (y := S.2.2.2.2.1) ((pk_un (by decide)).trans ((pk_un (by decide)).trans ((pk_un (by decide)).trans hS0.2.2.2.2.1))) ?_
    refine lv_aload_n hx hb dX9_doLeap_69 rfl (lv_at hl 0 rfl) ?_
    refine va_get (D := D) (ci := 9) (v := .int (bI u_17.2.2.2.2)) (C := RX9) (T := TX9) (N := 26) hx hb hts hiX9 hown hK hP 0 rfl rfl 18 (by decide) (hts (.fieldLink RX9 92 "LedgeLeapsModel" "isMet" "Z") (List.mem_of_getElem? (i := 4) rfl)) (fun _ h9 => h9) rfl dX9_doLeap_70 ?_
    refine lv_if_eq (tgt := 80) hx hb dX9_doLeap_73 (by decide) (fun c_73 => ?_) (fun c_73 => ?_)
    · refine lv_iconst (v := 0) hx hb dX9_doLeap_80 (by decide) ?_
      refine lv_iadd hx hb dX9_doLeap_81 ?_
      refine top_i (y := S.2.2.2.2.1) (Int32.add_zero _) ?_
      refine va_iast hx hb hK hP hD hS 1 0 rfl rfl (show ¬ ((26 : Int32) < 0 ∨ 28 ≤ (26 : Int32).toNatClampNeg) by decide) dX9_doLeap_82 (fun H locs hP hD hS => ?_)
      have hP : va_P D vwCl (oX9 mo zs zv vn zl zk zt vl vh zg zi zw vg zo ze u_17.1 u_17.2.1 u_17.2.2.1 u_17.2.2.2.1 (bI u_17.2.2.2.2) vp va vb vd vq zd vz :: aI cI zs 28 (upd (upd (upd (upd gs 23 u_17.1) 24 u_17.2.1) 25 (S.2.2.2.1 + 1)) 26 S.2.2.2.2.1) :: X) H := hP
      have hD : va_D A (oX9 mo zs zv vn zl zk zt vl vh zg zi zw vg zo ze u_17.1 u_17.2.1 u_17.2.2.1 u_17.2.2.2.1 (bI u_17.2.2.2.2) vp va vb vd vq zd vz :: aI cI zs 28 (upd (upd (upd (upd gs 23 u_17.1) 24 u_17.2.1) 25 (S.2.2.2.1 + 1)) 26 S.2.2.2.2.1) :: X) := hD
      refine lv_bipush (v := 100) hx hb dX9_doLeap_83 (by decide) ?_
      refine lv_aload_n hx hb dX9_doLeap_85 rfl (lv_at hl 0 rfl) ?_
      refine va_get (D := D) (ci := 9) (v := .int u_17.2.1) (C := RX9) (T := TX9) (N := 26) hx hb hts hiX9 hown hK hP 0 rfl rfl 15 (by decide) (hts (.fieldLink RX9 79 "LedgeLeapsModel" "row" "I") (List.mem_of_getElem? (i := 3) rfl)) (fun _ h9 => h9) rfl dX9_doLeap_86 ?_
      refine lv_imul hx hb dX9_doLeap_89 ?_
      refine lv_aload_n hx hb dX9_doLeap_90 rfl (lv_at hl 0 rfl) ?_
      refine va_get (D := D) (ci := 9) (v := .int u_17.1) (C := RX9) (T := TX9) (N := 26) hx hb hts hiX9 hown hK hP 0 rfl rfl 14 (by decide) (hts (.fieldLink RX9 76 "LedgeLeapsModel" "column" "I") (List.mem_of_getElem? (i := 2) rfl)) (fun _ h9 => h9) rfl dX9_doLeap_91 ?_
      refine lv_iadd hx hb dX9_doLeap_94 ?_
      exact W.iret (v := ((100 * u_17.2.1) + u_17.1)) hx hb hr (fun t9 ht9 hW9 => ⟨⟨((100 * u_17.2.1) + u_17.1), (u_17, (upd (upd (upd (upd gs 23 u_17.1) 24 u_17.2.1) 25 (S.2.2.2.1 + 1)) 26 S.2.2.2.2.1)), rfl, by rw [leap_do hng hc9 hr9 e1 e2, if_neg (by rw [← f5, bf_c c_73]; decide)]; exact ⟨by rw [f1, f2], (((hS0.col g1).row g2).lea).wal⟩, by rw [ht9]; exact hP, hD⟩, hS.F ht9⟩) hS.2.2 dX9_doLeap_95
    · refine lv_iconst (v := 1) hx hb dX9_doLeap_76 (by decide) ?_
      refine lv_goto (tgt := 81) hx hb dX9_doLeap_77 (by decide) ?_
      refine lv_iadd hx hb dX9_doLeap_81 ?_
      refine va_iast hx hb hK hP hD hS 1 0 rfl rfl (show ¬ ((26 : Int32) < 0 ∨ 28 ≤ (26 : Int32).toNatClampNeg) by decide) dX9_doLeap_82 (fun H locs hP hD hS => ?_)
      have hP : va_P D vwCl (oX9 mo zs zv vn zl zk zt vl vh zg zi zw vg zo ze u_17.1 u_17.2.1 u_17.2.2.1 u_17.2.2.2.1 (bI u_17.2.2.2.2) vp va vb vd vq zd vz :: aI cI zs 28 (upd (upd (upd (upd gs 23 u_17.1) 24 u_17.2.1) 25 (S.2.2.2.1 + 1)) 26 (S.2.2.2.2.1 + 1)) :: X) H := hP
      have hD : va_D A (oX9 mo zs zv vn zl zk zt vl vh zg zi zw vg zo ze u_17.1 u_17.2.1 u_17.2.2.1 u_17.2.2.2.1 (bI u_17.2.2.2.2) vp va vb vd vq zd vz :: aI cI zs 28 (upd (upd (upd (upd gs 23 u_17.1) 24 u_17.2.1) 25 (S.2.2.2.1 + 1)) 26 (S.2.2.2.2.1 + 1)) :: X) := hD
      refine lv_bipush (v := 100) hx hb dX9_doLeap_83 (by decide) ?_
      refine lv_aload_n hx hb dX9_doLeap_85 rfl (lv_at hl 0 rfl) ?_
      refine va_get (D := D) (ci := 9) (v := .int u_17.2.1) (C := RX9) (T := TX9) (N := 26) hx hb hts hiX9 hown hK hP 0 rfl rfl 15 (by decide) (hts (.fieldLink RX9 79 "LedgeLeapsModel" "row" "I") (List.mem_of_getElem? (i := 3) rfl)) (fun _ h9 => h9) rfl dX9_doLeap_86 ?_
      refine lv_imul hx hb dX9_doLeap_89 ?_
      refine lv_aload_n hx hb dX9_doLeap_90 rfl (lv_at hl 0 rfl) ?_
      refine va_get (D := D) (ci := 9) (v := .int u_17.1) (C := RX9) (T := TX9) (N := 26) hx hb hts hiX9 hown hK hP 0 rfl rfl 14 (by decide) (hts (.fieldLink RX9 76 "LedgeLeapsModel" "column" "I") (List.mem_of_getElem? (i := 2) rfl)) (fun _ h9 => h9) rfl dX9_doLeap_91 ?_
      refine lv_iadd hx hb dX9_doLeap_94 ?_
      exact W.iret (v := ((100 * u_17.2.1) + u_17.1)) hx hb hr (fun t9 ht9 hW9 => ⟨⟨((100 * u_17.2.1) + u_17.1), (u_17, (upd (upd (upd (upd gs 23 u_17.1) 24 u_17.2.1) 25 (S.2.2.2.1 + 1)) 26 (S.2.2.2.2.1 + 1))), rfl, by rw [leap_do hng hc9 hr9 e1 e2, if_pos (by rw [← f5]; exact bt_c c_73)]; exact ⟨by rw [f1, f2], (((hS0.col g1).row g2).lea).wal⟩, by rw [ht9]; exact hP, hD⟩, hS.F ht9⟩) hS.2.2 dX9_doLeap_95
  · refine lv_aload_n hx hb dX9_doLeap_23 rfl (lv_at hl 0 rfl) ?_
    refine cV_i CF hK hN hA hS (cut_of 2 [0, 1] hP hD rfl rfl rfl) (n_refuse l D cI cZ cW cJ A (X) mo zs zv zl zk zt zg zi zw zo ze zd vn vl vh vg u_17.1 u_17.2.1 u_17.2.2.1 u_17.2.2.2.1 vp va vb vd vq u_17.2.2.2.2 vz gs S hS0) (cwV 0 hts gX9_doLeap_X9_refuse rfl rfl rfl (by decide +kernel) ⟨Nat.le_of_ble_eq_true rfl, Nat.le_of_ble_eq_true rfl⟩) (As := []) (rest := []) (ci := 9) (q0 := 0) rfl rfl rfl hl.1 rfl (Nat.le_of_ble_eq_true rfl) dX9_doLeap_24 ⟨Nat.le_of_ble_eq_true rfl, Nat.le_of_ble_eq_true rfl⟩ (fun r_24 u_24 H locs hq hP hD hS => ?_)
    have hq_24 : r_24 = (-1) ∧ AbsM (refK S) u_24 := hq
    have hr_24 : r_24 = (-1) := hq_24.1
    subst hr_24
    have hP : va_P D vwCl (oX9 mo zs zv vn zl zk zt vl vh zg zi zw vg zo ze u_17.1 u_17.2.1 u_17.2.2.1 u_17.2.2.2.1 (bI u_17.2.2.2.2) vp va vb vd vq zd vz :: aI cI zs 28 u_24 :: X) H := pm_P hP 2 [0, 1] rfl
    have hD : va_D A (oX9 mo zs zv vn zl zk zt vl vh zg zi zw vg zo ze u_17.1 u_17.2.1 u_17.2.2.1 u_17.2.2.2.1 (bI u_17.2.2.2.2) vp va vb vd vq zd vz :: aI cI zs 28 u_24 :: X) := pm_D hD 2 [0, 1] rfl rfl rfl
    exact W.iret (v := ((-1))) hx hb hr (fun t9 ht9 hW9 => ⟨⟨((-1)), (u_17, u_24), rfl, by rw [leap_no (of_decide_eq_true (by have q := bf_c c_20; revert q; cases decide (grB (Bk S.1) (nI S.2.2.1.1) (nI S.2.2.1.2) xd < nI ak) <;> simp))]; exact hq_24, by rw [ht9]; exact hP, hD⟩, hS.F ht9⟩) hS.2.2 dX9_doLeap_27
set_option maxHeartbeats 4000000 in
set_option maxRecDepth 100000 in
theorem n_does (l : Launch) (D : va_G) (cI cZ cW cJ : ClassId) (A : Nat → Prop) (X : va_W) (mo zs zv zl zk zt zg zi zw zo ze zd : Nat) (vn vl vh vg vc vr vt vo vp va vb vd vq : Int32) (vm : Bool) (vz : Int64) (gs : Nat → Int32) (S : KS) (hS0 : AbsM S gs) (hWf : Wf S) (hO : OrdOK va vb vd vb vd) : Met l yX9_does wsX9_does ({ frames := 7, cells := 0, slots := 0, locals := 162 }) (va_Pc [.ref mo] (wd D (tyL cI cZ cW cJ) A (oX9 mo zs zv vn zl zk zt vl vh zg zi zw vg zo ze vc vr vt vo (bI vm) vp va vb vd vq zd vz :: aI cI zs 28 gs :: X))) (va_Qi (fun (r : Int32) (u : (Int32 × Int32 × Int32 × Int32 × Bool) × (Nat → Int32)) => r = (mK S (va, vb, vd)).2 ∧ AbsM (mK S (va, vb, vd)).1 u.2) (fun (u : (Int32 × Int32 × Int32 × Int32 × Bool) × (Nat → Int32)) t => wq D A (oX9 mo zs zv vn zl zk zt vl vh zg zi zw vg zo ze u.1.1 u.1.2.1 u.1.2.2.1 u.1.2.2.2.1 (bI u.1.2.2.2.2) vp va vb vd vq zd vz :: aI cI zs 28 u.2 :: X) t) A) 0 0 A := by
  refine Met.ofW (cc := cX9_does) (maxL := 1) (ret := (some .int)) (by decide) rfl ?_
  intro p e s m args below meth c s₁ B hml hv
  obtain ⟨rfl, hsz9, hP, hK, hD, hN⟩ := hv
  have hx := B.exec
  have hb := B.bytes
  have hr := B.returns
  have hts := atoms_spec (ws := wsX9_does) B.pre
  have hown : s.vm.findClass RX9 = some m.cls := findClass_of_methodNamed B.named
  have hlocks := B.notSynchronized
  have CF : CallFix p m c cX9_does 1 s _ wsX9_does RX9 := ⟨hx, hb, hml, hown, hts⟩
  have hA : ∀ q : Nat, s.heap.size ≤ q → A q := hsz9
  have hS : va_S A s.heap s.heap [] := va_S.rf
  have hiX9 : ∀ w ∈ u_ws RX9 TX9 26, w ∈ wsX9_does := fun _ h => List.mem_cons_of_mem _ (List.mem_append_right _ (h))
  have hl := lv_entry ([.ref mo]) (n := 1) (Nat.le_of_ble_eq_true rfl)
  rw [lg_entry_eq]
  generalize (lg_sl ([.ref mo]) ++ List.replicate (1 - (lg_sl ([.ref mo])).length) Slot.unset).toArray = ls at hl ⊢
  have hl : lv_has ls 1 [(0, .ref mo)] := hl
  show W p l e ({ frames := 7, cells := 0, slots := 0, locals := 162 } : Room) s m (([.ref mo] : List Value).toArray) below meth c s.heap [] 0 0 (MQ below (va_Qi (fun (r : Int32) (u : (Int32 × Int32 × Int32 × Int32 × Bool) × (Nat → Int32)) => r = (mK S (va, vb, vd)).2 ∧ AbsM (mK S (va, vb, vd)).1 u.2) (fun (u : (Int32 × Int32 × Int32 × Int32 × Bool) × (Nat → Int32)) t => wq D A (oX9 mo zs zv vn zl zk zt vl vh zg zi zw vg zo ze u.1.1 u.1.2.1 u.1.2.2.1 u.1.2.2.2.1 (bI u.1.2.2.2.2) vp va vb vd vq zd vz :: aI cI zs 28 u.2 :: X) t) A) (([.ref mo] : List Value).toArray) s 0 0 A) (F0 m 0 ls [])
  refine lv_aload_n hx hb dX9_does_0 rfl (lv_at hl 0 rfl) ?_
  refine va_get (D := D) (ci := 9) (v := .int va) (C := RX9) (T := TX9) (N := 26) hx hb hts hiX9 hown hK hP 0 rfl rfl 20 (by decide) (hts (.fieldLink RX9 161 "LedgeLeapsModel" "letter" "I") (List.mem_of_getElem? (i := 1) rfl)) (fun _ h9 => h9) rfl dX9_does_1 ?_
  refine lv_bipush (v := 98) hx hb dX9_does_4 (by decide) ?_
  refine lv_icmp_ne (tgt := 24) hx hb dX9_does_6 (by decide) (fun c_6 => ?_) (fun c_6 => ?_)
  · refine lv_aload_n hx hb dX9_does_24 rfl (lv_at hl 0 rfl) ?_
    refine va_get (D := D) (ci := 9) (v := .int va) (C := RX9) (T := TX9) (N := 26) hx hb hts hiX9 hown hK hP 0 rfl rfl 20 (by decide) (hts (.fieldLink RX9 161 "LedgeLeapsModel" "letter" "I") (List.mem_of_getElem? (i := 1) rfl)) (fun _ h9 => h9) rfl dX9_does_25 ?_
    refine lv_bipush (v := 119) hx hb dX9_does_28 (by decide) ?_
    refine lv_icmp_ne (tgt := 44) hx hb dX9_does_30 (by decide) (fun c_30 => ?_) (fun c_30 => ?_)
    · obtain ⟨k9, hk9, e1⟩ : ∃ k : Nat, k ≤ 3 ∧ vd = nI k := by rcases hO with ⟨h, -⟩ | ⟨-, h⟩ | ⟨-, -, h⟩; exact absurd h c_6; exact absurd h c_30; exact h
      refine lv_aload_n hx hb dX9_does_44 rfl (lv_at hl 0 rfl) ?_
      refine lv_aload_n hx hb dX9_does_45 rfl (lv_at hl 0 rfl) ?_
      refine va_get (D := D) (ci := 9) (v := .int vb) (C := RX9) (T := TX9) (N := 26) hx hb hts hiX9 hown hK hP 0 rfl rfl 21 (by decide) (hts (.fieldLink RX9 152 "LedgeLeapsModel" "one" "I") (List.mem_of_getElem? (i := 2) rfl)) (fun _ h9 => h9) rfl dX9_does_46 ?_
      refine lv_aload_n hx hb dX9_does_49 rfl (lv_at hl 0 rfl) ?_
      refine va_get (D := D) (ci := 9) (v := .int vd) (C := RX9) (T := TX9) (N := 26) hx hb hts hiX9 hown hK hP 0 rfl rfl 22 (by decide) (hts (.fieldLink RX9 155 "LedgeLeapsModel" "other" "I") (List.mem_of_getElem? (i := 3) rfl)) (fun _ h9 => h9) rfl dX9_does_50 ?_
      refine top_i (y := (nI k9)) e1 ?_
      refine cV_i CF hK hN hA hS (cut_of 2 [0, 1] hP hD rfl rfl rfl) (n_doLeap l D cI cZ cW cJ A (X) mo zs zv zl zk zt zg zi zw zo ze zd vn vl vh vg vc vr vt vo vp va vb vd vq vm vz gs S k9 vb hS0 hWf hk9) (cwV 2 hts gX9_does_X9_doLeap rfl rfl rfl (by decide +kernel) ⟨Nat.le_of_ble_eq_true rfl, Nat.le_of_ble_eq_true rfl⟩) (As := [.int vb, .int (nI k9)]) (rest := []) (ci := 9) (q0 := 0) rfl rfl rfl hl.1 rfl (Nat.le_of_ble_eq_true rfl) dX9_does_53 ⟨Nat.le_of_ble_eq_true rfl, Nat.le_of_ble_eq_true rfl⟩ (fun r_53 u_53 H locs hq hP hD hS => ?_)
      have hq_53 : r_53 = (leapK S vb k9).2 ∧ AbsM (leapK S vb k9).1 u_53.2 := hq
      have hP : va_P D vwCl (oX9 mo zs zv vn zl zk zt vl vh zg zi zw vg zo ze u_53.1.1 u_53.1.2.1 u_53.1.2.2.1 u_53.1.2.2.2.1 (bI u_53.1.2.2.2.2) vp va vb vd vq zd vz :: aI cI zs 28 u_53.2 :: X) H := pm_P hP 2 [0, 1] rfl
      have hD : va_D A (oX9 mo zs zv vn zl zk zt vl vh zg zi zw vg zo ze u_53.1.1 u_53.1.2.1 u_53.1.2.2.1 u_53.1.2.2.2.1 (bI u_53.1.2.2.2.2) vp va vb vd vq zd vz :: aI cI zs 28 u_53.2 :: X) := pm_D hD 2 [0, 1] rfl rfl rfl
      exact W.iret (v := r_53) hx hb hr (fun t9 ht9 hW9 => ⟨⟨r_53, u_53, rfl, by rw [mKo_l c_6 c_30 hk9 e1]; exact hq_53, by rw [ht9]; exact hP, hD⟩, hS.F ht9⟩) hS.2.2 dX9_does_56
    · refine lv_aload_n hx hb dX9_does_33 rfl (lv_at hl 0 rfl) ?_
      refine lv_aload_n hx hb dX9_does_34 rfl (lv_at hl 0 rfl) ?_
      refine va_get (D := D) (ci := 9) (v := .int vb) (C := RX9) (T := TX9) (N := 26) hx hb hts hiX9 hown hK hP 0 rfl rfl 21 (by decide) (hts (.fieldLink RX9 152 "LedgeLeapsModel" "one" "I") (List.mem_of_getElem? (i := 2) rfl)) (fun _ h9 => h9) rfl dX9_does_35 ?_
      refine cV_i CF hK hN hA hS (cut_of 2 [0, 1] hP hD rfl rfl rfl) (n_doWalk l D cI cZ cW cJ A (X) mo zs zv zl zk zt zg zi zw zo ze zd vn vl vh vg vc vr vt vo vp va vb vd vq vm vz gs S vb hS0) (cwV 1 hts gX9_does_X9_doWalk rfl rfl rfl (by decide +kernel) ⟨Nat.le_of_ble_eq_true rfl, Nat.le_of_ble_eq_true rfl⟩) (As := [.int vb]) (rest := []) (ci := 9) (q0 := 0) rfl rfl rfl hl.1 rfl (Nat.le_of_ble_eq_true rfl) dX9_does_38 ⟨Nat.le_of_ble_eq_true rfl, Nat.le_of_ble_eq_true rfl⟩ (fun r_38 u_38 H locs hq hP hD hS => ?_)
      have hq_38 : r_38 = (walkK S vb).2 ∧ AbsM (walkK S vb).1 u_38 := hq
      have hP : va_P D vwCl (oX9 mo zs zv vn zl zk zt vl vh zg zi zw vg zo ze vc vr vt vo (bI vm) vp va vb vd vq zd vz :: aI cI zs 28 u_38 :: X) H := pm_P hP 2 [0, 1] rfl
      have hD : va_D A (oX9 mo zs zv vn zl zk zt vl vh zg zi zw vg zo ze vc vr vt vo (bI vm) vp va vb vd vq zd vz :: aI cI zs 28 u_38 :: X) := pm_D hD 2 [0, 1] rfl rfl rfl
      refine lv_goto (tgt := 56) hx hb dX9_does_41 (by decide) ?_
      exact W.iret (v := r_38) hx hb hr (fun t9 ht9 hW9 => ⟨⟨r_38, ((vc, vr, vt, vo, vm), u_38), rfl, by rw [mKo_w c_6 c_30]; exact hq_38, by rw [ht9]; exact hP, hD⟩, hS.F ht9⟩) hS.2.2 dX9_does_56
  · obtain ⟨i9, j9, hi9, hj9, e1, e2⟩ : ∃ i j : Nat, i < 20 ∧ j < 10 ∧ vb = nI i ∧ vd = nI j := by rcases hO with ⟨-, h⟩ | ⟨h, -⟩ | ⟨h, -⟩; exact h; exact absurd c_6 h; exact absurd c_6 h
    refine lv_aload_n hx hb dX9_does_9 rfl (lv_at hl 0 rfl) ?_
    refine lv_aload_n hx hb dX9_does_10 rfl (lv_at hl 0 rfl) ?_
    refine va_get (D := D) (ci := 9) (v := .int vb) (C := RX9) (T := TX9) (N := 26) hx hb hts hiX9 hown hK hP 0 rfl rfl 21 (by decide) (hts (.fieldLink RX9 152 "LedgeLeapsModel" "one" "I") (List.mem_of_getElem? (i := 2) rfl)) (fun _ h9 => h9) rfl dX9_does_11 ?_
    refine top_i (y := (nI i9)) e1 ?_
    refine lv_aload_n hx hb dX9_does_14 rfl (lv_at hl 0 rfl) ?_
    refine va_get (D := D) (ci := 9) (v := .int vd) (C := RX9) (T := TX9) (N := 26) hx hb hts hiX9 hown hK hP 0 rfl rfl 22 (by decide) (hts (.fieldLink RX9 155 "LedgeLeapsModel" "other" "I") (List.mem_of_getElem? (i := 3) rfl)) (fun _ h9 => h9) rfl dX9_does_15 ?_
    refine top_i (y := (nI j9)) e2 ?_
    refine cV_i CF hK hN hA hS (cut_of 2 [0, 1] hP hD rfl rfl rfl) (n_doBuild l D cI cZ cW cJ A (X) mo zs zv zl zk zt zg zi zw zo ze zd vn vl vh vg vc vr vt vo vp va vb vd vq vm vz gs S i9 j9 hS0 hWf hi9 hj9) (cwV 2 hts gX9_does_X9_doBuild rfl rfl rfl (by decide +kernel) ⟨Nat.le_of_ble_eq_true rfl, Nat.le_of_ble_eq_true rfl⟩) (As := [.int (nI i9), .int (nI j9)]) (rest := []) (ci := 9) (q0 := 0) rfl rfl rfl hl.1 rfl (Nat.le_of_ble_eq_true rfl) dX9_does_18 ⟨Nat.le_of_ble_eq_true rfl, Nat.le_of_ble_eq_true rfl⟩ (fun r_18 u_18 H locs hq hP hD hS => ?_)
    have hq_18 : r_18 = (buildK S i9 j9).2 ∧ AbsM (buildK S i9 j9).1 u_18 := hq
    have hP : va_P D vwCl (oX9 mo zs zv vn zl zk zt vl vh zg zi zw vg zo ze vc vr vt vo (bI vm) vp va vb vd vq zd vz :: aI cI zs 28 u_18 :: X) H := pm_P hP 2 [0, 1] rfl
    have hD : va_D A (oX9 mo zs zv vn zl zk zt vl vh zg zi zw vg zo ze vc vr vt vo (bI vm) vp va vb vd vq zd vz :: aI cI zs 28 u_18 :: X) := pm_D hD 2 [0, 1] rfl rfl rfl
    refine lv_goto (tgt := 56) hx hb dX9_does_21 (by decide) ?_
    exact W.iret (v := r_18) hx hb hr (fun t9 ht9 hW9 => ⟨⟨r_18, ((vc, vr, vt, vo, vm), u_18), rfl, by rw [mKo_b c_6 hi9 hj9 e1 e2]; exact hq_18, by rw [ht9]; exact hP, hD⟩, hS.F ht9⟩) hS.2.2 dX9_does_56
set_option maxHeartbeats 4000000 in
set_option maxRecDepth 100000 in
theorem n_bitsOf (l : Launch) (D : va_G) (cI cZ cW cJ : ClassId) (A : Nat → Prop) (X : va_W) (xd : UInt64) (hok : bosOK 10 xd = true) : Met l yX9_bitsOf wsX9_bitsOf ({ frames := 0, cells := 0, slots := 0, locals := 0 }) (va_Pc [.double xd] (wd D (tyL cI cZ cW cJ) A (X))) (va_Ql (fun (r : Int64) (u : Unit) => r = bosV xd) (fun (u : Unit) t => wq D A (X) t) A) 0 0 A := by
  refine Met.ofW (cc := cX9_bitsOf) (maxL := 6) (ret := (some .long)) (by decide) rfl ?_
  intro p e s m args below meth c s₁ B hml hv
  obtain ⟨rfl, hsz9, hP, hK, hD, hN⟩ := hv
  have hx := B.exec
  have hb := B.bytes
  have hr := B.returns
  have hts := atoms_spec (ws := wsX9_bitsOf) B.pre
  have hown : s.vm.findClass RX9 = some m.cls := findClass_of_methodNamed B.named
  have hlocks := B.notSynchronized
  have CF : CallFix p m c cX9_bitsOf 6 s _ wsX9_bitsOf RX9 := ⟨hx, hb, hml, hown, hts⟩
  have hA : ∀ q : Nat, s.heap.size ≤ q → A q := hsz9
  have hS : va_S A s.heap s.heap [] := va_S.rf
  have hl := lv_entry ([.double xd]) (n := 6) (Nat.le_of_ble_eq_true rfl)
  rw [lg_entry_eq]
  generalize (lg_sl ([.double xd]) ++ List.replicate (6 - (lg_sl ([.double xd])).length) Slot.unset).toArray = ls at hl ⊢
  have hl : lv_has ls 6 [(0, .double xd)] := hl
  show W p l e ({ frames := 0, cells := 0, slots := 0, locals := 0 } : Room) s m (([.double xd] : List Value).toArray) below meth c s.heap [] 0 0 (MQ below (va_Ql (fun (r : Int64) (u : Unit) => r = bosV xd) (fun (u : Unit) t => wq D A (X) t) A) (([.double xd] : List Value).toArray) s 0 0 A) (F0 m 0 ls [])
  refine lv_ldc2 (v := 1023) hx hb hown (hts (.constantLong RX9 229 (1023)) (List.mem_of_getElem? (i := 1) rfl)) dX9_bitsOf_0 ?_
  refine lv_lstore_n (lv' := [(2, .long 1023), (0, .double xd)]) hx hb dX9_bitsOf_3 rfl hl (by decide) rfl (fun ls hl => ?_)
  refine lv_dload_n hx hb dX9_bitsOf_4 rfl (lv_at hl 1 rfl) ?_
  refine lv_dstore (lv' := [(4, .double xd), (2, .long 1023), (0, .double xd)]) hx hb dX9_bitsOf_5 hl (by decide) rfl (fun ls hl => ?_)
  have loop_7 : ∀ (nfu : Nat) (n : Nat) (d9 : UInt64) (e9 : Int64) (hn_7 : n < nfu) (hk9 : bosOK n d9 = true) (hv9 : bosF n d9 e9 = bosF 10 xd 1023) (H : Heap) (locs : List Loc) (hP : va_P D vwCl (X) H) (hD : va_D A (X)) (hS : va_S A s.heap H locs) (ls : Array Slot) (hl : lv_has ls 6 [(4, .double d9), (2, .long e9), (0, .double xd)]), W p l e ({ frames := 0, cells := 0, slots := 0, locals := 0 } : Room) s m (([.double xd] : List Value).toArray) below meth c H locs 0 0 (MQ below (va_Ql (fun (r : Int64) (u : Unit) => r = bosV xd) (fun (u : Unit) t => wq D A (X) t) A) (([.double xd] : List Value).toArray) s 0 0 A) (F0 m 7 ls []) := by
    intro nfu
    induction nfu with
    | zero => intro n d9 e9 hn_7; exact absurd hn_7 (Nat.not_lt_zero _)
    | succ nfu ih_7 =>
      intro n d9 e9 hn_7 hk9 hv9 H locs hP hD hS ls hl
      refine lv_dload hx hb dX9_bitsOf_7 (lv_at hl 0 rfl) ?_
      refine lv_dconst1 hx hb dX9_bitsOf_9 ?_
      refine lv_dcmp hx hb dX9_bitsOf_10 ?_
      refine lv_if_ge (tgt := 29) hx hb dX9_bitsOf_11 (by decide) (fun c_11 => ?_) (fun c_11 => ?_)
      · obtain ⟨hb5, hb6, hb7⟩ := bos_end (e := e9) hk9 (ge1_t c_11)
        refine lv_lload_n hx hb dX9_bitsOf_29 rfl (lv_at hl 1 rfl) ?_
        refine lv_ldc2 (v := 4503599627370496) hx hb hown (hts (.constantLong RX9 233 (4503599627370496)) (List.mem_of_getElem? (i := 3) rfl)) dX9_bitsOf_30 ?_
        refine lv_lmul hx hb dX9_bitsOf_33 ?_
        refine lv_dload hx hb dX9_bitsOf_34 (lv_at hl 0 rfl) ?_
        refine lv_dconst1 hx hb dX9_bitsOf_36 ?_
        refine lv_dsub hx hb dX9_bitsOf_37 (hb5) ?_
        refine lv_ldc2d (v := 4841369599423283200) hx hb hown (hts (.constantDouble RX9 235 (4841369599423283200)) (List.mem_of_getElem? (i := 4) rfl)) dX9_bitsOf_38 ?_
        refine lv_dmul hx hb dX9_bitsOf_41 (hb6) ?_
        refine lv_d2l hx hb dX9_bitsOf_42 ?_
        refine lv_ladd hx hb dX9_bitsOf_43 ?_
        exact W.lret (v := ((e9 * 4503599627370496) + (FP.d2l (FP.dmul (FP.dsub d9 FP.dconst1) 4841369599423283200)))) hx hb hr (fun t9 ht9 hW9 => ⟨⟨((e9 * 4503599627370496) + (FP.d2l (FP.dmul (FP.dsub d9 FP.dconst1) 4841369599423283200))), (), rfl, by rw [bosV_W]; unfold bosW; rw [← hv9, hb7], by rw [ht9]; exact hP, hD⟩, hS.F ht9⟩) hS.2.2 dX9_bitsOf_44
      · obtain ⟨n9, rfl, hb2, hb3, hb4⟩ := bos_go (e := e9) hk9 (ge1_f c_11)
        refine lv_dload hx hb dX9_bitsOf_14 (lv_at hl 0 rfl) ?_
        refine lv_ldc2d (v := 4611686018427387904) hx hb hown (hts (.constantDouble RX9 231 (4611686018427387904)) (List.mem_of_getElem? (i := 2) rfl)) dX9_bitsOf_16 ?_
        refine lv_dmul hx hb dX9_bitsOf_19 (hb2) ?_
        refine lv_dstore (lv' := [(4, .double (FP.dmul d9 4611686018427387904)), (2, .long e9), (0, .double xd)]) hx hb dX9_bitsOf_20 hl (by decide) rfl (fun ls hl => ?_)
        refine lv_lload_n hx hb dX9_bitsOf_22 rfl (lv_at hl 1 rfl) ?_
        refine lv_lconst (v := 1) hx hb dX9_bitsOf_23 (by decide) ?_
        refine lv_lsub hx hb dX9_bitsOf_24 ?_
        refine lv_lstore_n (lv' := [(2, .long (e9 - 1)), (4, .double (FP.dmul d9 4611686018427387904)), (0, .double xd)]) hx hb dX9_bitsOf_25 rfl hl (by decide) rfl (fun ls hl => ?_)
        refine lv_goto (tgt := 7) hx hb dX9_bitsOf_26 (by decide) ?_
        exact ih_7 n9 (FP.dmul d9 dTwo) (e9 - 1) (by omega) (hb3) (hb4.symm.trans hv9) _ _ (hP) (hD) hS _ (lv_sub hl [1, 0, 2] rfl)
  exact loop_7 _ 10 xd 1023 (Nat.lt_succ_self _) (hok) (rfl) _ _ hP hD hS _ (lv_sub hl [0, 1, 2] rfl)
set_option maxHeartbeats 4000000 in
set_option maxRecDepth 100000 in
theorem n_mix (l : Launch) (D : va_G) (cI cZ cW cJ : ClassId) (A : Nat → Prop) (X : va_W) (mo zs zv zl zk zt zg zi zw zo ze zd : Nat) (vn vl vh vg vc vr vt vo vp va vb vd vq : Int32) (vm : Bool) (vz : Int64) (xv : Int64) : Met l yX9_mix wsX9_mix ({ frames := 0, cells := 0, slots := 0, locals := 0 }) (va_Pc [.ref mo, .long xv] (wd D (tyL cI cZ cW cJ) A (oX9 mo zs zv vn zl zk zt vl vh zg zi zw vg zo ze vc vr vt vo (bI vm) vp va vb vd vq zd vz :: X))) (va_Qv (fun (u : Unit) => True) (fun (u : Unit) t => wq D A (oX9 mo zs zv vn zl zk zt vl vh zg zi zw vg zo ze vc vr vt vo (bI vm) vp va vb vd vq zd (mxL vz xv) :: X) t) A) 0 0 A := by
  refine Met.ofW (cc := cX9_mix) (maxL := 3) (ret := none) (by decide) rfl ?_
  intro p e s m args below meth c s₁ B hml hv
  obtain ⟨rfl, hsz9, hP, hK, hD, hN⟩ := hv
  have hx := B.exec
  have hb := B.bytes
  have hr := B.returns
  have hts := atoms_spec (ws := wsX9_mix) B.pre
  have hown : s.vm.findClass RX9 = some m.cls := findClass_of_methodNamed B.named
  have hlocks := B.notSynchronized
  have CF : CallFix p m c cX9_mix 3 s _ wsX9_mix RX9 := ⟨hx, hb, hml, hown, hts⟩
  have hA : ∀ q : Nat, s.heap.size ≤ q → A q := hsz9
  have hS : va_S A s.heap s.heap [] := va_S.rf
  have hiX9 : ∀ w ∈ u_ws RX9 TX9 26, w ∈ wsX9_mix := fun _ h => List.mem_cons_of_mem _ (List.mem_append_right _ (h))
  have hl := lv_entry ([.ref mo, .long xv]) (n := 3) (Nat.le_of_ble_eq_true rfl)
  rw [lg_entry_eq]
  generalize (lg_sl ([.ref mo, .long xv]) ++ List.replicate (3 - (lg_sl ([.ref mo, .long xv])).length) Slot.unset).toArray = ls at hl ⊢
  have hl : lv_has ls 3 [(0, .ref mo), (1, .long xv)] := hl
  show W p l e ({ frames := 0, cells := 0, slots := 0, locals := 0 } : Room) s m (([.ref mo, .long xv] : List Value).toArray) below meth c s.heap [] 0 0 (MQ below (va_Qv (fun (u : Unit) => True) (fun (u : Unit) t => wq D A (oX9 mo zs zv vn zl zk zt vl vh zg zi zw vg zo ze vc vr vt vo (bI vm) vp va vb vd vq zd (mxL vz xv) :: X) t) A) (([.ref mo, .long xv] : List Value).toArray) s 0 0 A) (F0 m 0 ls [])
  refine lv_aload_n hx hb dX9_mix_0 rfl (lv_at hl 0 rfl) ?_
  refine lv_ldc2 (v := 31) hx hb hown (hts (.constantLong RX9 237 (31)) (List.mem_of_getElem? (i := 1) rfl)) dX9_mix_1 ?_
  refine lv_aload_n hx hb dX9_mix_4 rfl (lv_at hl 0 rfl) ?_
  refine va_get (D := D) (ci := 9) (v := .long vz) (C := RX9) (T := TX9) (N := 26) hx hb hts hiX9 hown hK hP 0 rfl rfl 25 (by decide) (hts (.fieldLink RX9 239 "LedgeLeapsModel" "hash" "J") (List.mem_of_getElem? (i := 2) rfl)) (fun _ h9 => h9) rfl dX9_mix_5 ?_
  refine lv_lmul hx hb dX9_mix_8 ?_
  refine lv_lload_n hx hb dX9_mix_9 rfl (lv_at hl 1 rfl) ?_
  refine lv_ladd hx hb dX9_mix_10 ?_
  refine va_put (D := D) (ci := 9) (v := .long ((31 * vz) + xv)) (ty := .long) (C := RX9) (T := TX9) (N := 26) hx hb hts hiX9 tyX9 tyX9_ok nmX9 hown hK hP hD hS 0 rfl rfl 25 (by decide) (hts (.fieldLink RX9 239 "LedgeLeapsModel" "hash" "J") (List.mem_of_getElem? (i := 2) rfl)) (fun _ h9 => h9) rfl (by decide +kernel) rfl rfl (Nat.le_of_ble_eq_true rfl) dX9_mix_11 (fun H locs hP hD hS => ?_)
  have hP : va_P D vwCl (oX9 mo zs zv vn zl zk zt vl vh zg zi zw vg zo ze vc vr vt vo (bI vm) vp va vb vd vq zd ((31 * vz) + xv) :: X) H := hP
  have hD : va_D A (oX9 mo zs zv vn zl zk zt vl vh zg zi zw vg zo ze vc vr vt vo (bI vm) vp va vb vd vq zd ((31 * vz) + xv) :: X) := hD
  exact W.vret hx hb hr (fun t9 ht9 hW9 => ⟨⟨(), rfl, trivial, by rw [ht9]; exact hP, hD⟩, hS.F ht9⟩) hS.2.2 dX9_mix_14
set_option maxHeartbeats 4000000 in
set_option maxRecDepth 100000 in
theorem n_mixLedges (l : Launch) (D : va_G) (cI cZ cW cJ : ClassId) (A : Nat → Prop) (X : va_W) (mo zs zv zl zk zt zg zi zw zo ze zd : Nat) (vn vl vh vc vr vt vo vp va vb vd vq : Int32) (vm : Bool) (vz : Int64) (gs gg gi gw go ge : Nat → Int32) (S : KS) (hS0 : AbsM S gs) (hWf : Wf S) (hM : MapM S gg gi gw) (hR : RchM S go) : Met l yX9_mixLedges wsX9_mixLedges ({ frames := 3, cells := 0, slots := 0, locals := 70 }) (va_Pc [.ref mo] (wd D (tyL cI cZ cW cJ) A (oX9 mo zs zv vn zl zk zt vl vh zg zi zw (nI (nS S)) zo ze vc vr vt vo (bI vm) vp va vb vd vq zd vz :: aI cI zs 28 gs :: aI cI zg 200 gg :: aI cI zi 100 gi :: aI cI zw 100 gw :: aI cI zo 10000 go :: aI cI ze 100 ge :: X))) (va_Qv (fun (u : Nat → Int32) => True) (fun (u : Nat → Int32) t => wq D A (oX9 mo zs zv vn zl zk zt vl vh zg zi zw (nI (nS S)) zo ze vc vr vt vo (bI vm) vp va vb vd vq zd (hI (fun a h => mxI (mxI (hL (fun k => (ledgeS S a k).toInt64) 6 h) (dS S 3 (owS S) a)) (dS S 3 (owS S) a)) (nS S) vz) :: aI cI zs 28 gs :: aI cI zg 200 gg :: aI cI zi 100 gi :: aI cI zw 100 gw :: aI cI zo 10000 go :: aI cI ze 100 u :: X) t) A) 0 0 A := by
  refine Met.ofW (cc := cX9_mixLedges) (maxL := 3) (ret := none) (by decide) rfl ?_
  intro p e s m args below meth c s₁ B hml hv
  obtain ⟨rfl, hsz9, hP, hK, hD, hN⟩ := hv
  have hx := B.exec
  have hb := B.bytes
  have hr := B.returns
  have hts := atoms_spec (ws := wsX9_mixLedges) B.pre
  have hown : s.vm.findClass RX9 = some m.cls := findClass_of_methodNamed B.named
  have hlocks := B.notSynchronized
  have CF : CallFix p m c cX9_mixLedges 3 s _ wsX9_mixLedges RX9 := ⟨hx, hb, hml, hown, hts⟩
  have hA : ∀ q : Nat, s.heap.size ≤ q → A q := hsz9
  have hS : va_S A s.heap s.heap [] := va_S.rf
  have hiX9 : ∀ w ∈ u_ws RX9 TX9 26, w ∈ wsX9_mixLedges := fun _ h => List.mem_cons_of_mem _ (List.mem_append_right _ (h))
  have hl := lv_entry ([.ref mo]) (n := 3) (Nat.le_of_ble_eq_true rfl)
  rw [lg_entry_eq]
  generalize (lg_sl ([.ref mo]) ++ List.replicate (3 - (lg_sl ([.ref mo])).length) Slot.unset).toArray = ls at hl ⊢
  have hl : lv_has ls 3 [(0, .ref mo)] := hl
  show W p l e ({ frames := 3, cells := 0, slots := 0, locals := 70 } : Room) s m (([.ref mo] : List Value).toArray) below meth c s.heap [] 0 0 (MQ below (va_Qv (fun (u : Nat → Int32) => True) (fun (u : Nat → Int32) t => wq D A (oX9 mo zs zv vn zl zk zt vl vh zg zi zw (nI (nS S)) zo ze vc vr vt vo (bI vm) vp va vb vd vq zd (hI (fun a h => mxI (mxI (hL (fun k => (ledgeS S a k).toInt64) 6 h) (dS S 3 (owS S) a)) (dS S 3 (owS S) a)) (nS S) vz) :: aI cI zs 28 gs :: aI cI zg 200 gg :: aI cI zi 100 gi :: aI cI zw 100 gw :: aI cI zo 10000 go :: aI cI ze 100 u :: X) t) A) (([.ref mo] : List Value).toArray) s 0 0 A) (F0 m 0 ls [])
  have hn9 : nS S ≤ 100 := nL_le _
  refine lv_iconst (v := 0) hx hb dX9_mixLedges_0 (by decide) ?_
  refine lv_istore_n (lv' := [(1, .int 0), (0, .ref mo)]) hx hb dX9_mixLedges_1 rfl hl (by decide) rfl (fun ls hl => ?_)
  have loop_2 : ∀ (nfu : Nat) (i : Nat) (z1 : Int64) (e9 : Nat → Int32) (hn_2 : nS S - i < nfu) (hi : i ≤ nS S) (hv1 : z1 = hI (fun a h => mxI (mxI (hL (fun k => (ledgeS S a k).toInt64) 6 h) (dS S 3 (owS S) a)) (dS S 3 (owS S) a)) i vz) (H : Heap) (locs : List Loc) (hP : va_P D vwCl (oX9 mo zs zv vn zl zk zt vl vh zg zi zw (nI (nS S)) zo ze vc vr vt vo (bI vm) vp va vb vd vq zd z1 :: aI cI zs 28 gs :: aI cI zg 200 gg :: aI cI zi 100 gi :: aI cI zw 100 gw :: aI cI zo 10000 go :: aI cI ze 100 e9 :: X) H) (hD : va_D A (oX9 mo zs zv vn zl zk zt vl vh zg zi zw (nI (nS S)) zo ze vc vr vt vo (bI vm) vp va vb vd vq zd z1 :: aI cI zs 28 gs :: aI cI zg 200 gg :: aI cI zi 100 gi :: aI cI zw 100 gw :: aI cI zo 10000 go :: aI cI ze 100 e9 :: X)) (hS : va_S A s.heap H locs) (ls : Array Slot) (hl : lv_has ls 3 [(1, .int (nI i)), (0, .ref mo)]), W p l e ({ frames := 3, cells := 0, slots := 0, locals := 70 } : Room) s m (([.ref mo] : List Value).toArray) below meth c H locs 0 0 (MQ below (va_Qv (fun (u : Nat → Int32) => True) (fun (u : Nat → Int32) t => wq D A (oX9 mo zs zv vn zl zk zt vl vh zg zi zw (nI (nS S)) zo ze vc vr vt vo (bI vm) vp va vb vd vq zd (hI (fun a h => mxI (mxI (hL (fun k => (ledgeS S a k).toInt64) 6 h) (dS S 3 (owS S) a)) (dS S 3 (owS S) a)) (nS S) vz) :: aI cI zs 28 gs :: aI cI zg 200 gg :: aI cI zi 100 gi :: aI cI zw 100 gw :: aI cI zo 10000 go :: aI cI ze 100 u :: X) t) A) (([.ref mo] : List Value).toArray) s 0 0 A) (F0 m 2 ls []) := by
    intro nfu
    induction nfu with
    | zero => intro i z1 e9 hn_2; exact absurd hn_2 (Nat.not_lt_zero _)
    | succ nfu ih_2 =>
      intro i z1 e9 hn_2 hi hv1 H locs hP hD hS ls hl
      refine lv_iload_n hx hb dX9_mixLedges_2 rfl (lv_at hl 0 rfl) ?_
      refine lv_aload_n hx hb dX9_mixLedges_3 rfl (lv_at hl 1 rfl) ?_
      refine va_get (D := D) (ci := 9) (v := .int (nI (nS S))) (C := RX9) (T := TX9) (N := 26) hx hb hts hiX9 hown hK hP 0 rfl rfl 11 (by decide) (hts (.fieldLink RX9 66 "LedgeLeapsModel" "ledges" "I") (List.mem_of_getElem? (i := 1) rfl)) (fun _ h9 => h9) rfl dX9_mixLedges_4 ?_
      refine lv_icmp_ge (tgt := 72) hx hb dX9_mixLedges_7 (by decide) (fun c_7 => ?_) (fun c_7 => ?_)
      · have hi3 : i = nS S := by have h := le_of_ge (a := nS S) (b := i) (by omega) (by omega) c_7; omega
        rw [hi3] at hv1
        rw [hv1] at hP hD
        exact W.vret hx hb hr (fun t9 ht9 hW9 => ⟨⟨e9, rfl, trivial, by rw [ht9]; exact hP, hD⟩, hS.F ht9⟩) hS.2.2 dX9_mixLedges_72
      · have hi2 : i < nS S := lt_of_nge (a := nS S) (b := i) (by omega) (by omega) c_7
        refine lv_iconst (v := 0) hx hb dX9_mixLedges_10 (by decide) ?_
        refine lv_istore_n (lv' := [(2, .int 0), (1, .int (nI i)), (0, .ref mo)]) hx hb dX9_mixLedges_11 rfl hl (by decide) rfl (fun ls hl => ?_)
        have loop_12 : ∀ (nfu : Nat) (k : Nat) (z2 : Int64) (hn_12 : 6 - k < nfu) (hk : k ≤ 6) (hv2 : z2 = hL (fun k => (ledgeS S i k).toInt64) k z1) (H : Heap) (locs : List Loc) (hP : va_P D vwCl (oX9 mo zs zv vn zl zk zt vl vh zg zi zw (nI (nS S)) zo ze vc vr vt vo (bI vm) vp va vb vd vq zd z2 :: aI cI zs 28 gs :: aI cI zg 200 gg :: aI cI zi 100 gi :: aI cI zw 100 gw :: aI cI zo 10000 go :: aI cI ze 100 e9 :: X) H) (hD : va_D A (oX9 mo zs zv vn zl zk zt vl vh zg zi zw (nI (nS S)) zo ze vc vr vt vo (bI vm) vp va vb vd vq zd z2 :: aI cI zs 28 gs :: aI cI zg 200 gg :: aI cI zi 100 gi :: aI cI zw 100 gw :: aI cI zo 10000 go :: aI cI ze 100 e9 :: X)) (hS : va_S A s.heap H locs) (ls : Array Slot) (hl : lv_has ls 3 [(2, .int (nI k)), (1, .int (nI i)), (0, .ref mo)]), W p l e ({ frames := 3, cells := 0, slots := 0, locals := 70 } : Room) s m (([.ref mo] : List Value).toArray) below meth c H locs 0 0 (MQ below (va_Qv (fun (u : Nat → Int32) => True) (fun (u : Nat → Int32) t => wq D A (oX9 mo zs zv vn zl zk zt vl vh zg zi zw (nI (nS S)) zo ze vc vr vt vo (bI vm) vp va vb vd vq zd (hI (fun a h => mxI (mxI (hL (fun k => (ledgeS S a k).toInt64) 6 h) (dS S 3 (owS S) a)) (dS S 3 (owS S) a)) (nS S) vz) :: aI cI zs 28 gs :: aI cI zg 200 gg :: aI cI zi 100 gi :: aI cI zw 100 gw :: aI cI zo 10000 go :: aI cI ze 100 u :: X) t) A) (([.ref mo] : List Value).toArray) s 0 0 A) (F0 m 12 ls []) := by
          intro nfu
          induction nfu with
          | zero => intro k z2 hn_12; exact absurd hn_12 (Nat.not_lt_zero _)
          | succ nfu ih_12 =>
            intro k z2 hn_12 hk hv2 H locs hP hD hS ls hl
            refine lv_iload_n hx hb dX9_mixLedges_12 rfl (lv_at hl 0 rfl) ?_
            refine lv_bipush (v := 6) hx hb dX9_mixLedges_13 (by decide) ?_
            refine lv_icmp_ge (tgt := 35) hx hb dX9_mixLedges_15 (by decide) (fun c_15 => ?_) (fun c_15 => ?_)
            · have hk6 : k = 6 := by have h := le_of_ge (a := 6) (b := k) (by decide) (by omega) c_15; omega
              refine lv_aload_n hx hb dX9_mixLedges_35 rfl (lv_at hl 2 rfl) ?_
              refine lv_aload_n hx hb dX9_mixLedges_36 rfl (lv_at hl 2 rfl) ?_
              refine cV_i CF hK hN hA hS (cut_of 7 [0, 1, 2, 3, 4, 5, 6] hP hD rfl rfl rfl) (n_ownLedge l D cI cZ cW cJ A (aI cI zi 100 gi :: aI cI zw 100 gw :: aI cI zo 10000 go :: aI cI ze 100 e9 :: X) mo zs zv zl zk zt zg zi zw zo ze zd vn vl vh (nI (nS S)) vc vr vt vo vp va vb vd vq vm z2 gs gg S hS0 hWf) (cwV 0 hts gX9_mixLedges_X9_ownLedge rfl rfl rfl (by decide +kernel) ⟨Nat.le_of_ble_eq_true rfl, Nat.le_of_ble_eq_true rfl⟩) (As := []) (rest := [.ref mo]) (ci := 9) (q0 := 0) rfl rfl rfl hl.1 rfl (Nat.le_of_ble_eq_true rfl) dX9_mixLedges_37 ⟨Nat.le_of_ble_eq_true rfl, Nat.le_of_ble_eq_true rfl⟩ (fun r_37 _ H locs hq hP hD hS => ?_)
              have hq : r_37 = gg (20 * S.2.2.1.2 + S.2.2.1.1) := hq
              subst hq
              have hP : va_P D vwCl (oX9 mo zs zv vn zl zk zt vl vh zg zi zw (nI (nS S)) zo ze vc vr vt vo (bI vm) vp va vb vd vq zd z2 :: aI cI zs 28 gs :: aI cI zg 200 gg :: aI cI zi 100 gi :: aI cI zw 100 gw :: aI cI zo 10000 go :: aI cI ze 100 e9 :: X) H := pm_P hP 7 [0, 1, 2, 3, 4, 5, 6] rfl
              have hD : va_D A (oX9 mo zs zv vn zl zk zt vl vh zg zi zw (nI (nS S)) zo ze vc vr vt vo (bI vm) vp va vb vd vq zd z2 :: aI cI zs 28 gs :: aI cI zg 200 gg :: aI cI zi 100 gi :: aI cI zw 100 gw :: aI cI zo 10000 go :: aI cI ze 100 e9 :: X) := pm_D hD 7 [0, 1, 2, 3, 4, 5, 6] rfl rfl rfl
              refine top_i (y := (nI (owS S))) (own_M hM hWf) ?_
              refine lv_iconst (v := 3) hx hb dX9_mixLedges_40 (by decide) ?_
              refine cV_v CF hK hN hA hS (cut_of 7 [0, 5, 6, 1, 2, 3, 4] hP hD rfl rfl rfl) (n_spread l D cI cZ cW cJ A (aI cI zs 28 gs :: aI cI zg 200 gg :: aI cI zi 100 gi :: aI cI zw 100 gw :: X) mo zs zv zl zk zt zg zi zw zo ze zd vn vl vh vc vr vt vo vp va vb vd vq vm z2 go e9 S (owS S) 3 hR ((owS_lt hWf).1) (by decide)) (cwV 2 hts gX9_mixLedges_X9_spread rfl rfl rfl (by decide +kernel) ⟨Nat.le_of_ble_eq_true rfl, Nat.le_of_ble_eq_true rfl⟩) (As := [.int (nI (owS S)), .int 3]) (rest := []) (ci := 9) (q0 := 0) rfl rfl rfl hl.1 rfl (Nat.le_of_ble_eq_true rfl) dX9_mixLedges_41 ⟨Nat.le_of_ble_eq_true rfl, Nat.le_of_ble_eq_true rfl⟩ (fun u_41 H locs hq hP hD hS => ?_)
              have hq_41 : ∀ b, b < nS S → u_41 b = dS S 3 (owS S) b := hq
              have hP : va_P D vwCl (oX9 mo zs zv vn zl zk zt vl vh zg zi zw (nI (nS S)) zo ze vc vr vt vo (bI vm) vp va vb vd vq zd z2 :: aI cI zs 28 gs :: aI cI zg 200 gg :: aI cI zi 100 gi :: aI cI zw 100 gw :: aI cI zo 10000 go :: aI cI ze 100 u_41 :: X) H := pm_P hP 7 [0, 3, 4, 5, 6, 1, 2] rfl
              have hD : va_D A (oX9 mo zs zv vn zl zk zt vl vh zg zi zw (nI (nS S)) zo ze vc vr vt vo (bI vm) vp va vb vd vq zd z2 :: aI cI zs 28 gs :: aI cI zg 200 gg :: aI cI zi 100 gi :: aI cI zw 100 gw :: aI cI zo 10000 go :: aI cI ze 100 u_41 :: X) := pm_D hD 7 [0, 3, 4, 5, 6, 1, 2] rfl rfl rfl
              refine lv_aload_n hx hb dX9_mixLedges_44 rfl (lv_at hl 2 rfl) ?_
              refine lv_aload_n hx hb dX9_mixLedges_45 rfl (lv_at hl 2 rfl) ?_
              refine va_get (D := D) (ci := 9) (v := .ref ze) (C := RX9) (T := TX9) (N := 26) hx hb hts hiX9 hown hK hP 0 rfl rfl 13 (by decide) (hts (.fieldLink RX9 38 "LedgeLeapsModel" "fewest" "[I") (List.mem_of_getElem? (i := 2) rfl)) (fun _ h9 => h9) rfl dX9_mixLedges_46 ?_
              refine lv_iload_n hx hb dX9_mixLedges_49 rfl (lv_at hl 1 rfl) ?_
              refine va_iald hx hb hK hP 6 0 rfl rfl (vp_ix (e := i) (rfl) (by omega) (by decide)) dX9_mixLedges_50 ?_
              refine top_i (y := (u_41 i)) (ld_ix (f := u_41) (x := (nI i)) (e := i) (n := 100) (rfl) (by omega) (by decide)) ?_
              refine lv_i2l (v := ((u_41 i)).toInt64) hx hb dX9_mixLedges_51 rfl ?_
              refine cV_v CF hK hN hA hS (cut_of 7 [0, 1, 2, 3, 4, 5, 6] hP hD rfl rfl rfl) (n_mix l D cI cZ cW cJ A (aI cI zs 28 gs :: aI cI zg 200 gg :: aI cI zi 100 gi :: aI cI zw 100 gw :: aI cI zo 10000 go :: aI cI ze 100 u_41 :: X) mo zs zv zl zk zt zg zi zw zo ze zd vn vl vh (nI (nS S)) vc vr vt vo vp va vb vd vq vm z2 (((u_41 i)).toInt64)) (cwV 1 hts gX9_mixLedges_X9_mix rfl rfl rfl (by decide +kernel) ⟨Nat.le_of_ble_eq_true rfl, Nat.le_of_ble_eq_true rfl⟩) (As := [.long (((u_41 i)).toInt64)]) (rest := []) (ci := 9) (q0 := 0) rfl rfl rfl hl.1 rfl (Nat.le_of_ble_eq_true rfl) dX9_mixLedges_52 ⟨Nat.le_of_ble_eq_true rfl, Nat.le_of_ble_eq_true rfl⟩ (fun _ H locs hq hP hD hS => ?_)
              have hP : va_P D vwCl (oX9 mo zs zv vn zl zk zt vl vh zg zi zw (nI (nS S)) zo ze vc vr vt vo (bI vm) vp va vb vd vq zd (mxL z2 (((u_41 i)).toInt64)) :: aI cI zs 28 gs :: aI cI zg 200 gg :: aI cI zi 100 gi :: aI cI zw 100 gw :: aI cI zo 10000 go :: aI cI ze 100 u_41 :: X) H := pm_P hP 7 [0, 1, 2, 3, 4, 5, 6] rfl
              have hD : va_D A (oX9 mo zs zv vn zl zk zt vl vh zg zi zw (nI (nS S)) zo ze vc vr vt vo (bI vm) vp va vb vd vq zd (mxL z2 (((u_41 i)).toInt64)) :: aI cI zs 28 gs :: aI cI zg 200 gg :: aI cI zi 100 gi :: aI cI zw 100 gw :: aI cI zo 10000 go :: aI cI ze 100 u_41 :: X) := pm_D hD 7 [0, 1, 2, 3, 4, 5, 6] rfl rfl rfl
              refine lv_aload_n hx hb dX9_mixLedges_55 rfl (lv_at hl 2 rfl) ?_
              refine lv_aload_n hx hb dX9_mixLedges_56 rfl (lv_at hl 2 rfl) ?_
              refine va_get (D := D) (ci := 9) (v := .ref ze) (C := RX9) (T := TX9) (N := 26) hx hb hts hiX9 hown hK hP 0 rfl rfl 13 (by decide) (hts (.fieldLink RX9 38 "LedgeLeapsModel" "fewest" "[I") (List.mem_of_getElem? (i := 2) rfl)) (fun _ h9 => h9) rfl dX9_mixLedges_57 ?_
              refine lv_iload_n hx hb dX9_mixLedges_60 rfl (lv_at hl 1 rfl) ?_
              refine va_iald hx hb hK hP 6 0 rfl rfl (vp_ix (e := i) (rfl) (by omega) (by decide)) dX9_mixLedges_61 ?_
              refine top_i (y := (u_41 i)) (ld_ix (f := u_41) (x := (nI i)) (e := i) (n := 100) (rfl) (by omega) (by decide)) ?_
              refine lv_i2l (v := ((u_41 i)).toInt64) hx hb dX9_mixLedges_62 rfl ?_
              refine cV_v CF hK hN hA hS (cut_of 7 [0, 1, 2, 3, 4, 5, 6] hP hD rfl rfl rfl) (n_mix l D cI cZ cW cJ A (aI cI zs 28 gs :: aI cI zg 200 gg :: aI cI zi 100 gi :: aI cI zw 100 gw :: aI cI zo 10000 go :: aI cI ze 100 u_41 :: X) mo zs zv zl zk zt zg zi zw zo ze zd vn vl vh (nI (nS S)) vc vr vt vo vp va vb vd vq vm (mxL z2 (((u_41 i)).toInt64)) (((u_41 i)).toInt64)) (cwV 1 hts gX9_mixLedges_X9_mix rfl rfl rfl (by decide +kernel) ⟨Nat.le_of_ble_eq_true rfl, Nat.le_of_ble_eq_true rfl⟩) (As := [.long (((u_41 i)).toInt64)]) (rest := []) (ci := 9) (q0 := 0) rfl rfl rfl hl.1 rfl (Nat.le_of_ble_eq_true rfl) dX9_mixLedges_63 ⟨Nat.le_of_ble_eq_true rfl, Nat.le_of_ble_eq_true rfl⟩ (fun _ H locs hq hP hD hS => ?_)
              have hP : va_P D vwCl (oX9 mo zs zv vn zl zk zt vl vh zg zi zw (nI (nS S)) zo ze vc vr vt vo (bI vm) vp va vb vd vq zd (mxL (mxL z2 (((u_41 i)).toInt64)) (((u_41 i)).toInt64)) :: aI cI zs 28 gs :: aI cI zg 200 gg :: aI cI zi 100 gi :: aI cI zw 100 gw :: aI cI zo 10000 go :: aI cI ze 100 u_41 :: X) H := pm_P hP 7 [0, 1, 2, 3, 4, 5, 6] rfl
              have hD : va_D A (oX9 mo zs zv vn zl zk zt vl vh zg zi zw (nI (nS S)) zo ze vc vr vt vo (bI vm) vp va vb vd vq zd (mxL (mxL z2 (((u_41 i)).toInt64)) (((u_41 i)).toInt64)) :: aI cI zs 28 gs :: aI cI zg 200 gg :: aI cI zi 100 gi :: aI cI zw 100 gw :: aI cI zo 10000 go :: aI cI ze 100 u_41 :: X) := pm_D hD 7 [0, 1, 2, 3, 4, 5, 6] rfl rfl rfl
              refine lv_iinc (v := (nI (i + 1))) (lv' := [(1, .int (nI (i + 1))), (2, .int (nI k)), (0, .ref mo)]) hx hb dX9_mixLedges_66 hl (k := 1) rfl (nI_1 i) (by decide) rfl (fun ls hl => ?_)
              refine lv_goto (tgt := 2) hx hb dX9_mixLedges_69 (by decide) ?_
              exact ih_2 (i + 1) (mxL (mxL z2 (((u_41 i)).toInt64)) (((u_41 i)).toInt64)) u_41 (by omega) (by omega) (by rw [hq_41 i hi2, hv2, hk6, hv1]; refine Eq.trans ?_ (hI_s _ _ _).symm; rfl) _ _ (hP) (hD) hS _ (lv_sub hl [0, 2] rfl)
            · have hk2 : k < 6 := lt_of_nge (a := 6) (b := k) (by decide) (by omega) c_15
              refine lv_aload_n hx hb dX9_mixLedges_18 rfl (lv_at hl 2 rfl) ?_
              refine lv_aload_n hx hb dX9_mixLedges_19 rfl (lv_at hl 2 rfl) ?_
              refine lv_iload_n hx hb dX9_mixLedges_20 rfl (lv_at hl 1 rfl) ?_
              refine lv_iload_n hx hb dX9_mixLedges_21 rfl (lv_at hl 0 rfl) ?_
              refine cV_i CF hK hN hA hS (cut_of 7 [0, 2, 3, 4, 5, 1, 6] hP hD rfl rfl rfl) (n_ledgeTold l D cI cZ cW cJ A (aI cI zs 28 gs :: aI cI ze 100 e9 :: X) mo zs zv zl zk zt zg zi zw zo ze zd vn vl vh vc vr vt vo vp va vb vd vq vm z2 gg gi gw go S i k hM hR hi2 hk2) (cwV 2 hts gX9_mixLedges_X9_ledgeTold rfl rfl rfl (by decide +kernel) ⟨Nat.le_of_ble_eq_true rfl, Nat.le_of_ble_eq_true rfl⟩) (As := [.int (nI i), .int (nI k)]) (rest := [.ref mo]) (ci := 9) (q0 := 0) rfl rfl rfl hl.1 rfl (Nat.le_of_ble_eq_true rfl) dX9_mixLedges_22 ⟨Nat.le_of_ble_eq_true rfl, Nat.le_of_ble_eq_true rfl⟩ (fun r_22 _ H locs hq hP hD hS => ?_)
              have hq : r_22 = ledgeS S i k := hq
              subst hq
              have hP : va_P D vwCl (oX9 mo zs zv vn zl zk zt vl vh zg zi zw (nI (nS S)) zo ze vc vr vt vo (bI vm) vp va vb vd vq zd z2 :: aI cI zs 28 gs :: aI cI zg 200 gg :: aI cI zi 100 gi :: aI cI zw 100 gw :: aI cI zo 10000 go :: aI cI ze 100 e9 :: X) H := pm_P hP 7 [0, 5, 1, 2, 3, 4, 6] rfl
              have hD : va_D A (oX9 mo zs zv vn zl zk zt vl vh zg zi zw (nI (nS S)) zo ze vc vr vt vo (bI vm) vp va vb vd vq zd z2 :: aI cI zs 28 gs :: aI cI zg 200 gg :: aI cI zi 100 gi :: aI cI zw 100 gw :: aI cI zo 10000 go :: aI cI ze 100 e9 :: X) := pm_D hD 7 [0, 5, 1, 2, 3, 4, 6] rfl rfl rfl
              refine lv_i2l (v := ((ledgeS S i k)).toInt64) hx hb dX9_mixLedges_25 rfl ?_
              refine cV_v CF hK hN hA hS (cut_of 7 [0, 1, 2, 3, 4, 5, 6] hP hD rfl rfl rfl) (n_mix l D cI cZ cW cJ A (aI cI zs 28 gs :: aI cI zg 200 gg :: aI cI zi 100 gi :: aI cI zw 100 gw :: aI cI zo 10000 go :: aI cI ze 100 e9 :: X) mo zs zv zl zk zt zg zi zw zo ze zd vn vl vh (nI (nS S)) vc vr vt vo vp va vb vd vq vm z2 (((ledgeS S i k)).toInt64)) (cwV 1 hts gX9_mixLedges_X9_mix rfl rfl rfl (by decide +kernel) ⟨Nat.le_of_ble_eq_true rfl, Nat.le_of_ble_eq_true rfl⟩) (As := [.long (((ledgeS S i k)).toInt64)]) (rest := []) (ci := 9) (q0 := 0) rfl rfl rfl hl.1 rfl (Nat.le_of_ble_eq_true rfl) dX9_mixLedges_26 ⟨Nat.le_of_ble_eq_true rfl, Nat.le_of_ble_eq_true rfl⟩ (fun _ H locs hq hP hD hS => ?_)
              have hP : va_P D vwCl (oX9 mo zs zv vn zl zk zt vl vh zg zi zw (nI (nS S)) zo ze vc vr vt vo (bI vm) vp va vb vd vq zd (mxL z2 (((ledgeS S i k)).toInt64)) :: aI cI zs 28 gs :: aI cI zg 200 gg :: aI cI zi 100 gi :: aI cI zw 100 gw :: aI cI zo 10000 go :: aI cI ze 100 e9 :: X) H := pm_P hP 7 [0, 1, 2, 3, 4, 5, 6] rfl
              have hD : va_D A (oX9 mo zs zv vn zl zk zt vl vh zg zi zw (nI (nS S)) zo ze vc vr vt vo (bI vm) vp va vb vd vq zd (mxL z2 (((ledgeS S i k)).toInt64)) :: aI cI zs 28 gs :: aI cI zg 200 gg :: aI cI zi 100 gi :: aI cI zw 100 gw :: aI cI zo 10000 go :: aI cI ze 100 e9 :: X) := pm_D hD 7 [0, 1, 2, 3, 4, 5, 6] rfl rfl rfl
              refine lv_iinc (v := (nI (k + 1))) (lv' := [(2, .int (nI (k + 1))), (1, .int (nI i)), (0, .ref mo)]) hx hb dX9_mixLedges_29 hl (k := 0) rfl (nI_1 k) (by decide) rfl (fun ls hl => ?_)
              refine lv_goto (tgt := 12) hx hb dX9_mixLedges_32 (by decide) ?_
              exact ih_12 (k + 1) (mxL z2 (((ledgeS S i k)).toInt64)) (by omega) (by omega) (by rw [hv2]; exact (hL_s _ _ _).symm) _ _ (hP) (hD) hS _ (lv_sub hl [0, 1, 2] rfl)
        exact loop_12 _ 0 z1 (Nat.lt_succ_self _) (Nat.zero_le _) (rfl) _ _ hP hD hS _ (lv_sub hl [0, 1, 2] rfl)
  exact loop_2 _ 0 vz ge (Nat.lt_succ_self _) (Nat.zero_le _) (rfl) _ _ hP hD hS _ (lv_sub hl [0, 1] rfl)
set_option maxHeartbeats 4000000 in
set_option maxRecDepth 100000 in
theorem n_mixLeaps (l : Launch) (D : va_G) (cI cZ cW cJ : ClassId) (A : Nat → Prop) (X : va_W) (mo zs zv zl zk zt zg zi zw zo ze zd : Nat) (vn vl vh vg vc vr vt vo vp va vb vd vq : Int32) (vm : Bool) (vz : Int64) (gs : Nat → Int32) (S : KS) (hS0 : AbsM S gs) (hWf : Wf S) : Met l yX9_mixLeaps wsX9_mixLeaps ({ frames := 7, cells := 0, slots := 0, locals := 165 }) (va_Pc [.ref mo] (wd D (tyL cI cZ cW cJ) A (oX9 mo zs zv vn zl zk zt vl vh zg zi zw vg zo ze vc vr vt vo (bI vm) vp va vb vd vq zd vz :: aI cI zs 28 gs :: X))) (va_Qv (fun (u : Int32 × Int32 × Int32 × Int32 × Bool) => True) (fun (u : Int32 × Int32 × Int32 × Int32 × Bool) t => wq D A (oX9 mo zs zv vn zl zk zt vl vh zg zi zw vg zo ze u.1 u.2.1 u.2.2.1 u.2.2.2.1 (bI u.2.2.2.2) vp va vb vd vq zd (hI (fun i h => hI (fun u9 h => hL (fun k => (leapS S S.2.2.1.1 S.2.2.1.2 (if i = 0 then 1 else -1) u9 k).toInt64) 5 h) 2 h) 2 vz) :: aI cI zs 28 gs :: X) t) A) 0 0 A := by
  refine Met.ofW (cc := cX9_mixLeaps) (maxL := 2) (ret := none) (by decide) rfl ?_
  intro p e s m args below meth c s₁ B hml hv
  obtain ⟨rfl, hsz9, hP, hK, hD, hN⟩ := hv
  have hx := B.exec
  have hb := B.bytes
  have hr := B.returns
  have hts := atoms_spec (ws := wsX9_mixLeaps) B.pre
  have hown : s.vm.findClass RX9 = some m.cls := findClass_of_methodNamed B.named
  have hlocks := B.notSynchronized
  have CF : CallFix p m c cX9_mixLeaps 2 s _ wsX9_mixLeaps RX9 := ⟨hx, hb, hml, hown, hts⟩
  have hA : ∀ q : Nat, s.heap.size ≤ q → A q := hsz9
  have hS : va_S A s.heap s.heap [] := va_S.rf
  have hiX9 : ∀ w ∈ u_ws RX9 TX9 26, w ∈ wsX9_mixLeaps := fun _ h => List.mem_cons_of_mem _ (List.mem_append_right _ (h))
  have hl := lv_entry ([.ref mo]) (n := 2) (Nat.le_of_ble_eq_true rfl)
  rw [lg_entry_eq]
  generalize (lg_sl ([.ref mo]) ++ List.replicate (2 - (lg_sl ([.ref mo])).length) Slot.unset).toArray = ls at hl ⊢
  have hl : lv_has ls 2 [(0, .ref mo)] := hl
  show W p l e ({ frames := 7, cells := 0, slots := 0, locals := 165 } : Room) s m (([.ref mo] : List Value).toArray) below meth c s.heap [] 0 0 (MQ below (va_Qv (fun (u : Int32 × Int32 × Int32 × Int32 × Bool) => True) (fun (u : Int32 × Int32 × Int32 × Int32 × Bool) t => wq D A (oX9 mo zs zv vn zl zk zt vl vh zg zi zw vg zo ze u.1 u.2.1 u.2.2.1 u.2.2.2.1 (bI u.2.2.2.2) vp va vb vd vq zd (hI (fun i h => hI (fun u9 h => hL (fun k => (leapS S S.2.2.1.1 S.2.2.1.2 (if i = 0 then 1 else -1) u9 k).toInt64) 5 h) 2 h) 2 vz) :: aI cI zs 28 gs :: X) t) A) (([.ref mo] : List Value).toArray) s 0 0 A) (F0 m 0 ls [])
  refine lv_iconst (v := 0) hx hb dX9_mixLeaps_0 (by decide) ?_
  refine lv_istore_n (lv' := [(1, .int 0), (0, .ref mo)]) hx hb dX9_mixLeaps_1 rfl hl (by decide) rfl (fun ls hl => ?_)
  have loop_2 : ∀ (nfu : Nat) (i : Nat) (z1 : Int64) (x1 x2 x3 x4 : Int32) (b5 : Bool) (hn_2 : 20 - i < nfu) (hi : i ≤ 20) (hv1 : z1 = hL (fun q => (leapS S S.2.2.1.1 S.2.2.1.2 (if q < 10 then 1 else -1) (q / 5 % 2) (q % 5)).toInt64) i vz) (H : Heap) (locs : List Loc) (hP : va_P D vwCl (oX9 mo zs zv vn zl zk zt vl vh zg zi zw vg zo ze x1 x2 x3 x4 (bI b5) vp va vb vd vq zd z1 :: aI cI zs 28 gs :: X) H) (hD : va_D A (oX9 mo zs zv vn zl zk zt vl vh zg zi zw vg zo ze x1 x2 x3 x4 (bI b5) vp va vb vd vq zd z1 :: aI cI zs 28 gs :: X)) (hS : va_S A s.heap H locs) (ls : Array Slot) (hl : lv_has ls 2 [(1, .int (nI i)), (0, .ref mo)]), W p l e ({ frames := 7, cells := 0, slots := 0, locals := 165 } : Room) s m (([.ref mo] : List Value).toArray) below meth c H locs 0 0 (MQ below (va_Qv (fun (u : Int32 × Int32 × Int32 × Int32 × Bool) => True) (fun (u : Int32 × Int32 × Int32 × Int32 × Bool) t => wq D A (oX9 mo zs zv vn zl zk zt vl vh zg zi zw vg zo ze u.1 u.2.1 u.2.2.1 u.2.2.2.1 (bI u.2.2.2.2) vp va vb vd vq zd (hI (fun i h => hI (fun u9 h => hL (fun k => (leapS S S.2.2.1.1 S.2.2.1.2 (if i = 0 then 1 else -1) u9 k).toInt64) 5 h) 2 h) 2 vz) :: aI cI zs 28 gs :: X) t) A) (([.ref mo] : List Value).toArray) s 0 0 A) (F0 m 2 ls []) := by
    intro nfu
    induction nfu with
    | zero => intro i z1 x1 x2 x3 x4 b5 hn_2; exact absurd hn_2 (Nat.not_lt_zero _)
    | succ nfu ih_2 =>
      intro i z1 x1 x2 x3 x4 b5 hn_2 hi hv1 H locs hP hD hS ls hl
      refine lv_iload_n hx hb dX9_mixLeaps_2 rfl (lv_at hl 0 rfl) ?_
      refine lv_bipush (v := 20) hx hb dX9_mixLeaps_3 (by decide) ?_
      refine lv_icmp_ge (tgt := 56) hx hb dX9_mixLeaps_5 (by decide) (fun c_5 => ?_) (fun c_5 => ?_)
      · have hi3 : i = 20 := by have h := le_of_ge (a := 20) (b := i) (by decide) (by omega) c_5; omega
        rw [hi3, leaps_flat (fun d u k => (leapS S S.2.2.1.1 S.2.2.1.2 d u k).toInt64)] at hv1
        rw [hv1] at hP hD
        exact W.vret hx hb hr (fun t9 ht9 hW9 => ⟨⟨(x1, x2, x3, x4, b5), rfl, trivial, by rw [ht9]; exact hP, hD⟩, hS.F ht9⟩) hS.2.2 dX9_mixLeaps_56
      · have hi2 : i < 20 := lt_of_nge (a := 20) (b := i) (by decide) (by omega) c_5
        refine lv_aload_n hx hb dX9_mixLeaps_8 rfl (lv_at hl 1 rfl) ?_
        refine lv_aload_n hx hb dX9_mixLeaps_9 rfl (lv_at hl 1 rfl) ?_
        refine lv_aload_n hx hb dX9_mixLeaps_10 rfl (lv_at hl 1 rfl) ?_
        refine va_get (D := D) (ci := 9) (v := .ref zs) (C := RX9) (T := TX9) (N := 26) hx hb hts hiX9 hown hK hP 0 rfl rfl 0 (by decide) (hts (.fieldLink RX9 7 "LedgeLeapsModel" "s" "[I") (List.mem_of_getElem? (i := 1) rfl)) (fun _ h9 => h9) rfl dX9_mixLeaps_11 ?_
        refine lv_bipush (v := 23) hx hb dX9_mixLeaps_14 (by decide) ?_
        refine va_iald hx hb hK hP 1 0 rfl rfl (show ¬ ((23 : Int32) < 0 ∨ 28 ≤ (23 : Int32).toNatClampNeg) by decide) dX9_mixLeaps_16 ?_
        refine top_i (y := (gs 23)) (rfl) ?_
        refine top_i (y := (nI S.2.2.1.1)) hS0.2.2.1.1 ?_
        refine lv_aload_n hx hb dX9_mixLeaps_17 rfl (lv_at hl 1 rfl) ?_
        refine va_get (D := D) (ci := 9) (v := .ref zs) (C := RX9) (T := TX9) (N := 26) hx hb hts hiX9 hown hK hP 0 rfl rfl 0 (by decide) (hts (.fieldLink RX9 7 "LedgeLeapsModel" "s" "[I") (List.mem_of_getElem? (i := 1) rfl)) (fun _ h9 => h9) rfl dX9_mixLeaps_18 ?_
        refine lv_bipush (v := 24) hx hb dX9_mixLeaps_21 (by decide) ?_
        refine va_iald hx hb hK hP 1 0 rfl rfl (show ¬ ((24 : Int32) < 0 ∨ 28 ≤ (24 : Int32).toNatClampNeg) by decide) dX9_mixLeaps_23 ?_
        refine top_i (y := (gs 24)) (rfl) ?_
        refine top_i (y := (nI S.2.2.1.2)) hS0.2.2.1.2 ?_
        refine lv_iload_n hx hb dX9_mixLeaps_24 rfl (lv_at hl 0 rfl) ?_
        refine lv_bipush (v := 10) hx hb dX9_mixLeaps_25 (by decide) ?_
        refine lv_icmp_ge (tgt := 34) hx hb dX9_mixLeaps_27 (by decide) (fun c_27 => ?_) (fun c_27 => ?_)
        · refine lv_iconst (v := (-1)) hx hb dX9_mixLeaps_34 (by decide) ?_
          refine top_i (y := (if i < 10 then 1 else -1)) ((if_neg (fun q => by have h := le_of_ge (a := 10) (b := i) (by decide) (by omega) c_27; omega)).symm) ?_
          refine lv_iload_n hx hb dX9_mixLeaps_35 rfl (lv_at hl 0 rfl) ?_
          refine lv_iconst (v := 5) hx hb dX9_mixLeaps_36 (by decide) ?_
          refine lv_idiv hx hb dX9_mixLeaps_37 (by decide) ?_
          refine top_i (y := (nI (i / 5))) (pk_div (by omega) (by decide) (by decide)) ?_
          refine lv_iconst (v := 2) hx hb dX9_mixLeaps_38 (by decide) ?_
          refine lv_irem hx hb dX9_mixLeaps_39 (by decide) ?_
          refine top_i (y := (nI (i / 5 % 2))) (pk_rem (by omega) (by decide) (by decide)) ?_
          refine lv_iload_n hx hb dX9_mixLeaps_40 rfl (lv_at hl 0 rfl) ?_
          refine lv_iconst (v := 5) hx hb dX9_mixLeaps_41 (by decide) ?_
          refine lv_irem hx hb dX9_mixLeaps_42 (by decide) ?_
          refine top_i (y := (nI (i % 5))) (pk_rem (by omega) (by decide) (by decide)) ?_
          refine cV_i CF hK hN hA hS (cut_of 2 [0, 1] hP hD rfl rfl rfl) (n_leapTold l D cI cZ cW cJ A (X) mo zs zv zl zk zt zg zi zw zo ze zd vn vl vh vg x1 x2 x3 x4 vp va vb vd vq b5 z1 gs S S.2.2.1.1 S.2.2.1.2 (i / 5 % 2) (i % 5) (if i < 10 then 1 else -1) hS0 hWf hWf.2.1 hWf.2.2.1 (by omega) (by omega)) (cwV 5 hts gX9_mixLeaps_X9_leapTold rfl rfl rfl (by decide +kernel) ⟨Nat.le_of_ble_eq_true rfl, Nat.le_of_ble_eq_true rfl⟩) (As := [.int (nI S.2.2.1.1), .int (nI S.2.2.1.2), .int (if i < 10 then 1 else -1), .int (nI (i / 5 % 2)), .int (nI (i % 5))]) (rest := [.ref mo]) (ci := 9) (q0 := 0) rfl rfl rfl hl.1 rfl (Nat.le_of_ble_eq_true rfl) dX9_mixLeaps_43 ⟨Nat.le_of_ble_eq_true rfl, Nat.le_of_ble_eq_true rfl⟩ (fun r_43 u_43 H locs hq hP hD hS => ?_)
          have hq_43 : r_43 = leapS S S.2.2.1.1 S.2.2.1.2 (if i < 10 then 1 else -1) (i / 5 % 2) (i % 5) ∧ True := hq
          have hr_43 : r_43 = leapS S S.2.2.1.1 S.2.2.1.2 (if i < 10 then 1 else -1) (i / 5 % 2) (i % 5) := hq_43.1
          subst hr_43
          have hP : va_P D vwCl (oX9 mo zs zv vn zl zk zt vl vh zg zi zw vg zo ze u_43.1 u_43.2.1 u_43.2.2.1 u_43.2.2.2.1 (bI u_43.2.2.2.2) vp va vb vd vq zd z1 :: aI cI zs 28 gs :: X) H := pm_P hP 2 [0, 1] rfl
          have hD : va_D A (oX9 mo zs zv vn zl zk zt vl vh zg zi zw vg zo ze u_43.1 u_43.2.1 u_43.2.2.1 u_43.2.2.2.1 (bI u_43.2.2.2.2) vp va vb vd vq zd z1 :: aI cI zs 28 gs :: X) := pm_D hD 2 [0, 1] rfl rfl rfl
          refine lv_i2l (v := ((leapS S S.2.2.1.1 S.2.2.1.2 (if i < 10 then 1 else -1) (i / 5 % 2) (i % 5))).toInt64) hx hb dX9_mixLeaps_46 rfl ?_
          refine cV_v CF hK hN hA hS (cut_of 2 [0, 1] hP hD rfl rfl rfl) (n_mix l D cI cZ cW cJ A (aI cI zs 28 gs :: X) mo zs zv zl zk zt zg zi zw zo ze zd vn vl vh vg u_43.1 u_43.2.1 u_43.2.2.1 u_43.2.2.2.1 vp va vb vd vq u_43.2.2.2.2 z1 (((leapS S S.2.2.1.1 S.2.2.1.2 (if i < 10 then 1 else -1) (i / 5 % 2) (i % 5))).toInt64)) (cwV 1 hts gX9_mixLeaps_X9_mix rfl rfl rfl (by decide +kernel) ⟨Nat.le_of_ble_eq_true rfl, Nat.le_of_ble_eq_true rfl⟩) (As := [.long (((leapS S S.2.2.1.1 S.2.2.1.2 (if i < 10 then 1 else -1) (i / 5 % 2) (i % 5))).toInt64)]) (rest := []) (ci := 9) (q0 := 0) rfl rfl rfl hl.1 rfl (Nat.le_of_ble_eq_true rfl) dX9_mixLeaps_47 ⟨Nat.le_of_ble_eq_true rfl, Nat.le_of_ble_eq_true rfl⟩ (fun _ H locs hq hP hD hS => ?_)
          have hP : va_P D vwCl (oX9 mo zs zv vn zl zk zt vl vh zg zi zw vg zo ze u_43.1 u_43.2.1 u_43.2.2.1 u_43.2.2.2.1 (bI u_43.2.2.2.2) vp va vb vd vq zd (mxL z1 (((leapS S S.2.2.1.1 S.2.2.1.2 (if i < 10 then 1 else -1) (i / 5 % 2) (i % 5))).toInt64)) :: aI cI zs 28 gs :: X) H := pm_P hP 2 [0, 1] rfl
          have hD : va_D A (oX9 mo zs zv vn zl zk zt vl vh zg zi zw vg zo ze u_43.1 u_43.2.1 u_43.2.2.1 u_43.2.2.2.1 (bI u_43.2.2.2.2) vp va vb vd vq zd (mxL z1 (((leapS S S.2.2.1.1 S.2.2.1.2 (if i < 10 then 1 else -1) (i / 5 % 2) (i % 5))).toInt64)) :: aI cI zs 28 gs :: X) := pm_D hD 2 [0, 1] rfl rfl rfl
          refine lv_iinc (v := (nI (i + 1))) (lv' := [(1, .int (nI (i + 1))), (0, .ref mo)]) hx hb dX9_mixLeaps_50 hl (k := 0) rfl (nI_1 i) (by decide) rfl (fun ls hl => ?_)
          refine lv_goto (tgt := 2) hx hb dX9_mixLeaps_53 (by decide) ?_
          exact ih_2 (i + 1) (mxL z1 (((leapS S S.2.2.1.1 S.2.2.1.2 (if i < 10 then 1 else -1) (i / 5 % 2) (i % 5))).toInt64)) u_43.1 u_43.2.1 u_43.2.2.1 u_43.2.2.2.1 u_43.2.2.2.2 (by omega) (by omega) (by rw [hv1]; exact (hL_s _ _ _).symm) _ _ (hP) (hD) hS _ (lv_sub hl [0, 1] rfl)
        · refine lv_iconst (v := 1) hx hb dX9_mixLeaps_30 (by decide) ?_
          refine top_i (y := (if i < 10 then 1 else -1)) ((if_pos (lt_of_nge (a := 10) (b := i) (by decide) (by omega) c_27)).symm) ?_
          refine lv_goto (tgt := 35) hx hb dX9_mixLeaps_31 (by decide) ?_
          refine lv_iload_n hx hb dX9_mixLeaps_35 rfl (lv_at hl 0 rfl) ?_
          refine lv_iconst (v := 5) hx hb dX9_mixLeaps_36 (by decide) ?_
          refine lv_idiv hx hb dX9_mixLeaps_37 (by decide) ?_
          refine top_i (y := (nI (i / 5))) (pk_div (by omega) (by decide) (by decide)) ?_
          refine lv_iconst (v := 2) hx hb dX9_mixLeaps_38 (by decide) ?_
          refine lv_irem hx hb dX9_mixLeaps_39 (by decide) ?_
          refine top_i (y := (nI (i / 5 % 2))) (pk_rem (by omega) (by decide) (by decide)) ?_
          refine lv_iload_n hx hb dX9_mixLeaps_40 rfl (lv_at hl 0 rfl) ?_
          refine lv_iconst (v := 5) hx hb dX9_mixLeaps_41 (by decide) ?_
          refine lv_irem hx hb dX9_mixLeaps_42 (by decide) ?_
          refine top_i (y := (nI (i % 5))) (pk_rem (by omega) (by decide) (by decide)) ?_
          refine cV_i CF hK hN hA hS (cut_of 2 [0, 1] hP hD rfl rfl rfl) (n_leapTold l D cI cZ cW cJ A (X) mo zs zv zl zk zt zg zi zw zo ze zd vn vl vh vg x1 x2 x3 x4 vp va vb vd vq b5 z1 gs S S.2.2.1.1 S.2.2.1.2 (i / 5 % 2) (i % 5) (if i < 10 then 1 else -1) hS0 hWf hWf.2.1 hWf.2.2.1 (by omega) (by omega)) (cwV 5 hts gX9_mixLeaps_X9_leapTold rfl rfl rfl (by decide +kernel) ⟨Nat.le_of_ble_eq_true rfl, Nat.le_of_ble_eq_true rfl⟩) (As := [.int (nI S.2.2.1.1), .int (nI S.2.2.1.2), .int (if i < 10 then 1 else -1), .int (nI (i / 5 % 2)), .int (nI (i % 5))]) (rest := [.ref mo]) (ci := 9) (q0 := 0) rfl rfl rfl hl.1 rfl (Nat.le_of_ble_eq_true rfl) dX9_mixLeaps_43 ⟨Nat.le_of_ble_eq_true rfl, Nat.le_of_ble_eq_true rfl⟩ (fun r_43 u_43 H locs hq hP hD hS => ?_)
          have hq_43 : r_43 = leapS S S.2.2.1.1 S.2.2.1.2 (if i < 10 then 1 else -1) (i / 5 % 2) (i % 5) ∧ True := hq
          have hr_43 : r_43 = leapS S S.2.2.1.1 S.2.2.1.2 (if i < 10 then 1 else -1) (i / 5 % 2) (i % 5) := hq_43.1
          subst hr_43
          have hP : va_P D vwCl (oX9 mo zs zv vn zl zk zt vl vh zg zi zw vg zo ze u_43.1 u_43.2.1 u_43.2.2.1 u_43.2.2.2.1 (bI u_43.2.2.2.2) vp va vb vd vq zd z1 :: aI cI zs 28 gs :: X) H := pm_P hP 2 [0, 1] rfl
          have hD : va_D A (oX9 mo zs zv vn zl zk zt vl vh zg zi zw vg zo ze u_43.1 u_43.2.1 u_43.2.2.1 u_43.2.2.2.1 (bI u_43.2.2.2.2) vp va vb vd vq zd z1 :: aI cI zs 28 gs :: X) := pm_D hD 2 [0, 1] rfl rfl rfl
          refine lv_i2l (v := ((leapS S S.2.2.1.1 S.2.2.1.2 (if i < 10 then 1 else -1) (i / 5 % 2) (i % 5))).toInt64) hx hb dX9_mixLeaps_46 rfl ?_
          refine cV_v CF hK hN hA hS (cut_of 2 [0, 1] hP hD rfl rfl rfl) (n_mix l D cI cZ cW cJ A (aI cI zs 28 gs :: X) mo zs zv zl zk zt zg zi zw zo ze zd vn vl vh vg u_43.1 u_43.2.1 u_43.2.2.1 u_43.2.2.2.1 vp va vb vd vq u_43.2.2.2.2 z1 (((leapS S S.2.2.1.1 S.2.2.1.2 (if i < 10 then 1 else -1) (i / 5 % 2) (i % 5))).toInt64)) (cwV 1 hts gX9_mixLeaps_X9_mix rfl rfl rfl (by decide +kernel) ⟨Nat.le_of_ble_eq_true rfl, Nat.le_of_ble_eq_true rfl⟩) (As := [.long (((leapS S S.2.2.1.1 S.2.2.1.2 (if i < 10 then 1 else -1) (i / 5 % 2) (i % 5))).toInt64)]) (rest := []) (ci := 9) (q0 := 0) rfl rfl rfl hl.1 rfl (Nat.le_of_ble_eq_true rfl) dX9_mixLeaps_47 ⟨Nat.le_of_ble_eq_true rfl, Nat.le_of_ble_eq_true rfl⟩ (fun _ H locs hq hP hD hS => ?_)
          have hP : va_P D vwCl (oX9 mo zs zv vn zl zk zt vl vh zg zi zw vg zo ze u_43.1 u_43.2.1 u_43.2.2.1 u_43.2.2.2.1 (bI u_43.2.2.2.2) vp va vb vd vq zd (mxL z1 (((leapS S S.2.2.1.1 S.2.2.1.2 (if i < 10 then 1 else -1) (i / 5 % 2) (i % 5))).toInt64)) :: aI cI zs 28 gs :: X) H := pm_P hP 2 [0, 1] rfl
          have hD : va_D A (oX9 mo zs zv vn zl zk zt vl vh zg zi zw vg zo ze u_43.1 u_43.2.1 u_43.2.2.1 u_43.2.2.2.1 (bI u_43.2.2.2.2) vp va vb vd vq zd (mxL z1 (((leapS S S.2.2.1.1 S.2.2.1.2 (if i < 10 then 1 else -1) (i / 5 % 2) (i % 5))).toInt64)) :: aI cI zs 28 gs :: X) := pm_D hD 2 [0, 1] rfl rfl rfl
          refine lv_iinc (v := (nI (i + 1))) (lv' := [(1, .int (nI (i + 1))), (0, .ref mo)]) hx hb dX9_mixLeaps_50 hl (k := 0) rfl (nI_1 i) (by decide) rfl (fun ls hl => ?_)
          refine lv_goto (tgt := 2) hx hb dX9_mixLeaps_53 (by decide) ?_
          exact ih_2 (i + 1) (mxL z1 (((leapS S S.2.2.1.1 S.2.2.1.2 (if i < 10 then 1 else -1) (i / 5 % 2) (i % 5))).toInt64)) u_43.1 u_43.2.1 u_43.2.2.1 u_43.2.2.2.1 u_43.2.2.2.2 (by omega) (by omega) (by rw [hv1]; exact (hL_s _ _ _).symm) _ _ (hP) (hD) hS _ (lv_sub hl [0, 1] rfl)
  exact loop_2 _ 0 vz vc vr vt vo vm (Nat.lt_succ_self _) (Nat.zero_le _) (rfl) _ _ hP hD hS _ (lv_sub hl [0, 1] rfl)
