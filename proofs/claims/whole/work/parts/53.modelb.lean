set_option maxHeartbeats 4000000 in
set_option maxRecDepth 100000 in
theorem n_findLedges (l : Launch) (D : va_G) (cI cZ cW cJ : ClassId) (A : Nat → Prop) (X : va_W) (mo zs zv zl zk zt zg zi zw zo ze zd : Nat) (vn vl vh vc vr vt vo vp va vb vd vq : Int32) (vm : Bool) (vz : Int64) (vg : Int32) (gs gg gi gw : Nat → Int32) (S : KS) (hS0 : AbsM S gs) : Met l yX9_findLedges wsX9_findLedges ({ frames := 4, cells := 0, slots := 0, locals := 87 }) (va_Pc [.ref mo] (wd D (tyL cI cZ cW cJ) A (oX9 mo zs zv vn zl zk zt vl vh zg zi zw vg zo ze vc vr vt vo (bI vm) vp va vb vd vq zd vz :: aI cI zs 28 gs :: aI cI zg 200 gg :: aI cI zi 100 gi :: aI cI zw 100 gw :: X))) (va_Qv (fun (u : (Nat → Int32) × (Nat → Int32) × (Nat → Int32)) => MapM S u.1 u.2.1 u.2.2) (fun (u : (Nat → Int32) × (Nat → Int32) × (Nat → Int32)) t => wq D A (oX9 mo zs zv vn zl zk zt vl vh zg zi zw (nI (nS S)) zo ze vc vr vt vo (bI vm) vp va vb vd vq zd vz :: aI cI zs 28 gs :: aI cI zg 200 u.1 :: aI cI zi 100 u.2.1 :: aI cI zw 100 u.2.2 :: X) t) A) 0 0 A := by
  refine Met.ofW (cc := cX9_findLedges) (maxL := 4) (ret := none) (by decide) rfl ?_
  intro p e s m args below meth c s₁ B hml hv
  obtain ⟨rfl, hsz9, hP, hK, hD, hN⟩ := hv
  have hx := B.exec
  have hb := B.bytes
  have hr := B.returns
  have hts := atoms_spec (ws := wsX9_findLedges) B.pre
  have hown : s.vm.findClass RX9 = some m.cls := findClass_of_methodNamed B.named
  have hlocks := B.notSynchronized
  have CF : CallFix p m c cX9_findLedges 4 s _ wsX9_findLedges RX9 := ⟨hx, hb, hml, hown, hts⟩
  have hA : ∀ q : Nat, s.heap.size ≤ q → A q := hsz9
  have hS : va_S A s.heap s.heap [] := va_S.rf
  have hiX9 : ∀ w ∈ u_ws RX9 TX9 26, w ∈ wsX9_findLedges := fun _ h => List.mem_cons_of_mem _ (List.mem_append_right _ (h))
  have hl := lv_entry ([.ref mo]) (n := 4) (Nat.le_of_ble_eq_true rfl)
  rw [lg_entry_eq]
  generalize (lg_sl ([.ref mo]) ++ List.replicate (4 - (lg_sl ([.ref mo])).length) Slot.unset).toArray = ls at hl ⊢
  have hl : lv_has ls 4 [(0, .ref mo)] := hl
  show W p l e ({ frames := 4, cells := 0, slots := 0, locals := 87 } : Room) s m (([.ref mo] : List Value).toArray) below meth c s.heap [] 0 0 (MQ below (va_Qv (fun (u : (Nat → Int32) × (Nat → Int32) × (Nat → Int32)) => MapM S u.1 u.2.1 u.2.2) (fun (u : (Nat → Int32) × (Nat → Int32) × (Nat → Int32)) t => wq D A (oX9 mo zs zv vn zl zk zt vl vh zg zi zw (nI (nS S)) zo ze vc vr vt vo (bI vm) vp va vb vd vq zd vz :: aI cI zs 28 gs :: aI cI zg 200 u.1 :: aI cI zi 100 u.2.1 :: aI cI zw 100 u.2.2 :: X) t) A) (([.ref mo] : List Value).toArray) s 0 0 A) (F0 m 0 ls [])
  refine lv_aload_n hx hb dX9_findLedges_0 rfl (lv_at hl 0 rfl) ?_
  refine lv_iconst (v := 0) hx hb dX9_findLedges_1 (by decide) ?_
  refine va_put (D := D) (ci := 9) (v := .int 0) (ty := .int) (C := RX9) (T := TX9) (N := 26) hx hb hts hiX9 tyX9 tyX9_ok nmX9 hown hK hP hD hS 0 rfl rfl 11 (by decide) (hts (.fieldLink RX9 66 "LedgeLeapsModel" "ledges" "I") (List.mem_of_getElem? (i := 1) rfl)) (fun _ h9 => h9) rfl (by decide +kernel) rfl rfl (Nat.le_of_ble_eq_true rfl) dX9_findLedges_2 (fun H locs hP hD hS => ?_)
  have hP : va_P D vwCl (oX9 mo zs zv vn zl zk zt vl vh zg zi zw 0 zo ze vc vr vt vo (bI vm) vp va vb vd vq zd vz :: aI cI zs 28 gs :: aI cI zg 200 gg :: aI cI zi 100 gi :: aI cI zw 100 gw :: X) H := hP
  have hD : va_D A (oX9 mo zs zv vn zl zk zt vl vh zg zi zw 0 zo ze vc vr vt vo (bI vm) vp va vb vd vq zd vz :: aI cI zs 28 gs :: aI cI zg 200 gg :: aI cI zi 100 gi :: aI cI zw 100 gw :: X) := hD
  refine lv_iconst (v := 0) hx hb dX9_findLedges_5 (by decide) ?_
  refine lv_istore_n (lv' := [(1, .int 0), (0, .ref mo)]) hx hb dX9_findLedges_6 rfl hl (by decide) rfl (fun ls hl => ?_)
  have loop_7 : ∀ (nfu : Nat) (i : Nat) (hn_7 : 200 - i < nfu) (hi : i ≤ 200) (H : Heap) (locs : List Loc) (hP : va_P D vwCl (oX9 mo zs zv vn zl zk zt vl vh zg zi zw (nI (cnt (SB (Bk S.1)) i)) zo ze vc vr vt vo (bI vm) vp va vb vd vq zd vz :: aI cI zs 28 gs :: aI cI zg 200 (loA (SB (Bk S.1)) gg i) :: aI cI zi 100 (scA (SB (Bk S.1)) (fun j => nI j) gi i) :: aI cI zw 100 (leA (SB (Bk S.1)) gw i) :: X) H) (hD : va_D A (oX9 mo zs zv vn zl zk zt vl vh zg zi zw (nI (cnt (SB (Bk S.1)) i)) zo ze vc vr vt vo (bI vm) vp va vb vd vq zd vz :: aI cI zs 28 gs :: aI cI zg 200 (loA (SB (Bk S.1)) gg i) :: aI cI zi 100 (scA (SB (Bk S.1)) (fun j => nI j) gi i) :: aI cI zw 100 (leA (SB (Bk S.1)) gw i) :: X)) (hS : va_S A s.heap H locs) (ls : Array Slot) (hl : lv_has ls 4 [(1, .int (nI i)), (0, .ref mo)]), W p l e ({ frames := 4, cells := 0, slots := 0, locals := 87 } : Room) s m (([.ref mo] : List Value).toArray) below meth c H locs 0 0 (MQ below (va_Qv (fun (u : (Nat → Int32) × (Nat → Int32) × (Nat → Int32)) => MapM S u.1 u.2.1 u.2.2) (fun (u : (Nat → Int32) × (Nat → Int32) × (Nat → Int32)) t => wq D A (oX9 mo zs zv vn zl zk zt vl vh zg zi zw (nI (nS S)) zo ze vc vr vt vo (bI vm) vp va vb vd vq zd vz :: aI cI zs 28 gs :: aI cI zg 200 u.1 :: aI cI zi 100 u.2.1 :: aI cI zw 100 u.2.2 :: X) t) A) (([.ref mo] : List Value).toArray) s 0 0 A) (F0 m 7 ls []) := by
    intro nfu
    induction nfu with
    | zero => intro i hn_7; exact absurd hn_7 (Nat.not_lt_zero _)
    | succ nfu ih_7 =>
      intro i hn_7 hi H locs hP hD hS ls hl
      refine lv_iload_n hx hb dX9_findLedges_7 rfl (lv_at hl 0 rfl) ?_
      refine lv_sipush (v := 200) hx hb dX9_findLedges_8 (by decide) ?_
      refine lv_icmp_ge (tgt := 119) hx hb dX9_findLedges_11 (by decide) (fun c_11 => ?_) (fun c_11 => ?_)
      · obtain rfl : i = 200 := by have h := le_of_ge (a := 200) (b := i) (by decide) (by omega) c_11; omega
        exact W.vret hx hb hr (fun t9 ht9 hW9 => ⟨⟨((loA (SB (Bk S.1)) gg 200), (scA (SB (Bk S.1)) (fun j => nI j) gi 200), (leA (SB (Bk S.1)) gw 200)), rfl, MapM.of S gg gi gw, by rw [ht9]; exact hP, hD⟩, hS.F ht9⟩) hS.2.2 dX9_findLedges_119
      · have hi2 : i < 200 := lt_of_nge (a := 200) (b := i) (by decide) (by omega) c_11
        refine lv_iload_n hx hb dX9_findLedges_14 rfl (lv_at hl 0 rfl) ?_
        refine lv_bipush (v := 20) hx hb dX9_findLedges_15 (by decide) ?_
        refine lv_irem hx hb dX9_findLedges_17 (by decide) ?_
        refine top_i (y := (nI (i % 20))) (pk_rem (by omega) (by decide) (by decide)) ?_
        refine lv_istore_n (lv' := [(2, .int (nI (i % 20))), (1, .int (nI i)), (0, .ref mo)]) hx hb dX9_findLedges_18 rfl hl (by decide) rfl (fun ls hl => ?_)
        refine lv_iload_n hx hb dX9_findLedges_19 rfl (lv_at hl 1 rfl) ?_
        refine lv_bipush (v := 20) hx hb dX9_findLedges_20 (by decide) ?_
        refine lv_idiv hx hb dX9_findLedges_22 (by decide) ?_
        refine top_i (y := (nI (i / 20))) (pk_div (by omega) (by decide) (by decide)) ?_
        refine lv_istore_n (lv' := [(3, .int (nI (i / 20))), (2, .int (nI (i % 20))), (1, .int (nI i)), (0, .ref mo)]) hx hb dX9_findLedges_23 rfl hl (by decide) rfl (fun ls hl => ?_)
        refine lv_aload_n hx hb dX9_findLedges_24 rfl (lv_at hl 3 rfl) ?_
        refine va_get (D := D) (ci := 9) (v := .ref zg) (C := RX9) (T := TX9) (N := 26) hx hb hts hiX9 hown hK hP 0 rfl rfl 8 (by decide) (hts (.fieldLink RX9 26 "LedgeLeapsModel" "ledge" "[I") (List.mem_of_getElem? (i := 2) rfl)) (fun _ h9 => h9) rfl dX9_findLedges_25 ?_
        refine lv_iload_n hx hb dX9_findLedges_28 rfl (lv_at hl 2 rfl) ?_
        refine lv_iconst (v := (-1)) hx hb dX9_findLedges_29 (by decide) ?_
        refine va_iast hx hb hK hP hD hS 2 0 rfl rfl (vp_ix (e := i) (rfl) (hi2) (by decide)) dX9_findLedges_30 (fun H locs hP hD hS => ?_)
        rw [cl_ix (x := (nI i)) (e := i) (n := 200) (rfl) (hi2) (by decide)] at hP hD
        have hP : va_P D vwCl (oX9 mo zs zv vn zl zk zt vl vh zg zi zw (nI (cnt (SB (Bk S.1)) i)) zo ze vc vr vt vo (bI vm) vp va vb vd vq zd vz :: aI cI zs 28 gs :: aI cI zg 200 (upd (loA (SB (Bk S.1)) gg i) i (-1)) :: aI cI zi 100 (scA (SB (Bk S.1)) (fun j => nI j) gi i) :: aI cI zw 100 (leA (SB (Bk S.1)) gw i) :: X) H := hP
        have hD : va_D A (oX9 mo zs zv vn zl zk zt vl vh zg zi zw (nI (cnt (SB (Bk S.1)) i)) zo ze vc vr vt vo (bI vm) vp va vb vd vq zd vz :: aI cI zs 28 gs :: aI cI zg 200 (upd (loA (SB (Bk S.1)) gg i) i (-1)) :: aI cI zi 100 (scA (SB (Bk S.1)) (fun j => nI j) gi i) :: aI cI zw 100 (leA (SB (Bk S.1)) gw i) :: X) := hD
        refine lv_aload_n hx hb dX9_findLedges_31 rfl (lv_at hl 3 rfl) ?_
        refine lv_iload_n hx hb dX9_findLedges_32 rfl (lv_at hl 1 rfl) ?_
        refine lv_iload_n hx hb dX9_findLedges_33 rfl (lv_at hl 0 rfl) ?_
        refine cV_i CF hK hN hA hS (cut_of 5 [0, 1, 2, 3, 4] hP hD rfl rfl rfl) (n_canStand l D cI cZ cW cJ A (aI cI zg 200 (upd (loA (SB (Bk S.1)) gg i) i (-1)) :: aI cI zi 100 (scA (SB (Bk S.1)) (fun j => nI j) gi i) :: aI cI zw 100 (leA (SB (Bk S.1)) gw i) :: X) mo zs zv zl zk zt zg zi zw zo ze zd vn vl vh (nI (cnt (SB (Bk S.1)) i)) vc vr vt vo vp va vb vd vq vm vz gs S (nI (i % 20)) (nI (i / 20)) hS0) (cwV 2 hts gX9_findLedges_X9_canStand rfl rfl rfl (by decide +kernel) ⟨Nat.le_of_ble_eq_true rfl, Nat.le_of_ble_eq_true rfl⟩) (As := [.int (nI (i % 20)), .int (nI (i / 20))]) (rest := []) (ci := 9) (q0 := 0) rfl rfl rfl hl.1 rfl (Nat.le_of_ble_eq_true rfl) dX9_findLedges_34 ⟨Nat.le_of_ble_eq_true rfl, Nat.le_of_ble_eq_true rfl⟩ (fun r_34 _ H locs hq hP hD hS => ?_)
        have hq : r_34 = bI (stB (Bk S.1) (nI (i % 20)) (nI (i / 20))) := hq
        subst hq
        have hP : va_P D vwCl (oX9 mo zs zv vn zl zk zt vl vh zg zi zw (nI (cnt (SB (Bk S.1)) i)) zo ze vc vr vt vo (bI vm) vp va vb vd vq zd vz :: aI cI zs 28 gs :: aI cI zg 200 (upd (loA (SB (Bk S.1)) gg i) i (-1)) :: aI cI zi 100 (scA (SB (Bk S.1)) (fun j => nI j) gi i) :: aI cI zw 100 (leA (SB (Bk S.1)) gw i) :: X) H := pm_P hP 5 [0, 1, 2, 3, 4] rfl
        have hD : va_D A (oX9 mo zs zv vn zl zk zt vl vh zg zi zw (nI (cnt (SB (Bk S.1)) i)) zo ze vc vr vt vo (bI vm) vp va vb vd vq zd vz :: aI cI zs 28 gs :: aI cI zg 200 (upd (loA (SB (Bk S.1)) gg i) i (-1)) :: aI cI zi 100 (scA (SB (Bk S.1)) (fun j => nI j) gi i) :: aI cI zw 100 (leA (SB (Bk S.1)) gw i) :: X) := pm_D hD 5 [0, 1, 2, 3, 4] rfl rfl rfl
        refine lv_if_eq (tgt := 113) hx hb dX9_findLedges_37 (by decide) (fun c_37 => ?_) (fun c_37 => ?_)
        · refine lv_iinc (v := (nI (i + 1))) (lv' := [(1, .int (nI (i + 1))), (3, .int (nI (i / 20))), (2, .int (nI (i % 20))), (0, .ref mo)]) hx hb dX9_findLedges_113 hl (k := 2) rfl (nI_1 i) (by decide) rfl (fun ls hl => ?_)
          refine lv_goto (tgt := 7) hx hb dX9_findLedges_116 (by decide) ?_
          have hSi : (SB (Bk S.1)) i = false := bf_c c_37
          obtain ⟨h1e, h2e, h3e, h4e⟩ := non_eq (v := fun j => nI j) (f := gi) hSi
          have h5e := (non_eq (v := fun j => nI j) (f := gw) hSi).2.1
          have h6e : upd (loA (SB (Bk S.1)) gg i) i (-1) = loA (SB (Bk S.1)) gg (i + 1) := by rw [loA, h4e]
          rw [h6e, ← h1e, ← h5e, ← h3e] at hP hD
          exact ih_7 (i + 1) (by omega) (by omega) _ _ (hP) (hD) hS _ (lv_sub hl [0, 3] rfl)
        · have hSi : (SB (Bk S.1)) i = true := bt_c c_37
          refine lv_iload_n hx hb dX9_findLedges_40 rfl (lv_at hl 1 rfl) ?_
          refine lv_if_eq (tgt := 56) hx hb dX9_findLedges_41 (by decide) (fun c_41 => ?_) (fun c_41 => ?_)
          · have hst : stt (SB (Bk S.1)) i = true := by unfold stt; rw [hSi, nI_inj (a := i % 20) (b := 0) (by omega) (by decide) c_41]; rfl
            have hcl := cnt_lt (by omega) hst
            refine lv_aload_n hx hb dX9_findLedges_56 rfl (lv_at hl 3 rfl) ?_
            refine va_get (D := D) (ci := 9) (v := .ref zi) (C := RX9) (T := TX9) (N := 26) hx hb hts hiX9 hown hK hP 0 rfl rfl 9 (by decide) (hts (.fieldLink RX9 29 "LedgeLeapsModel" "first" "[I") (List.mem_of_getElem? (i := 3) rfl)) (fun _ h9 => h9) rfl dX9_findLedges_57 ?_
            refine lv_aload_n hx hb dX9_findLedges_60 rfl (lv_at hl 3 rfl) ?_
            refine va_get (D := D) (ci := 9) (v := .int (nI (cnt (SB (Bk S.1)) i))) (C := RX9) (T := TX9) (N := 26) hx hb hts hiX9 hown hK hP 0 rfl rfl 11 (by decide) (hts (.fieldLink RX9 66 "LedgeLeapsModel" "ledges" "I") (List.mem_of_getElem? (i := 1) rfl)) (fun _ h9 => h9) rfl dX9_findLedges_61 ?_
            refine lv_iload_n hx hb dX9_findLedges_64 rfl (lv_at hl 2 rfl) ?_
            refine va_iast hx hb hK hP hD hS 3 0 rfl rfl (vp_ix (e := (cnt (SB (Bk S.1)) i)) (rfl) (hcl) (by decide)) dX9_findLedges_65 (fun H locs hP hD hS => ?_)
            rw [cl_ix (x := (nI (cnt (SB (Bk S.1)) i))) (e := (cnt (SB (Bk S.1)) i)) (n := 100) (rfl) (hcl) (by decide)] at hP hD
            have hP : va_P D vwCl (oX9 mo zs zv vn zl zk zt vl vh zg zi zw (nI (cnt (SB (Bk S.1)) i)) zo ze vc vr vt vo (bI vm) vp va vb vd vq zd vz :: aI cI zs 28 gs :: aI cI zg 200 (upd (loA (SB (Bk S.1)) gg i) i (-1)) :: aI cI zi 100 (upd (scA (SB (Bk S.1)) (fun j => nI j) gi i) (cnt (SB (Bk S.1)) i) (nI i)) :: aI cI zw 100 (leA (SB (Bk S.1)) gw i) :: X) H := hP
            have hD : va_D A (oX9 mo zs zv vn zl zk zt vl vh zg zi zw (nI (cnt (SB (Bk S.1)) i)) zo ze vc vr vt vo (bI vm) vp va vb vd vq zd vz :: aI cI zs 28 gs :: aI cI zg 200 (upd (loA (SB (Bk S.1)) gg i) i (-1)) :: aI cI zi 100 (upd (scA (SB (Bk S.1)) (fun j => nI j) gi i) (cnt (SB (Bk S.1)) i) (nI i)) :: aI cI zw 100 (leA (SB (Bk S.1)) gw i) :: X) := hD
            refine lv_aload_n hx hb dX9_findLedges_66 rfl (lv_at hl 3 rfl) ?_
            refine va_get (D := D) (ci := 9) (v := .ref zw) (C := RX9) (T := TX9) (N := 26) hx hb hts hiX9 hown hK hP 0 rfl rfl 10 (by decide) (hts (.fieldLink RX9 32 "LedgeLeapsModel" "wide" "[I") (List.mem_of_getElem? (i := 4) rfl)) (fun _ h9 => h9) rfl dX9_findLedges_67 ?_
            refine lv_aload_n hx hb dX9_findLedges_70 rfl (lv_at hl 3 rfl) ?_
            refine va_get (D := D) (ci := 9) (v := .int (nI (cnt (SB (Bk S.1)) i))) (C := RX9) (T := TX9) (N := 26) hx hb hts hiX9 hown hK hP 0 rfl rfl 11 (by decide) (hts (.fieldLink RX9 66 "LedgeLeapsModel" "ledges" "I") (List.mem_of_getElem? (i := 1) rfl)) (fun _ h9 => h9) rfl dX9_findLedges_71 ?_
            refine lv_iconst (v := 0) hx hb dX9_findLedges_74 (by decide) ?_
            refine va_iast hx hb hK hP hD hS 4 0 rfl rfl (vp_ix (e := (cnt (SB (Bk S.1)) i)) (rfl) (hcl) (by decide)) dX9_findLedges_75 (fun H locs hP hD hS => ?_)
            rw [cl_ix (x := (nI (cnt (SB (Bk S.1)) i))) (e := (cnt (SB (Bk S.1)) i)) (n := 100) (rfl) (hcl) (by decide)] at hP hD
            have hP : va_P D vwCl (oX9 mo zs zv vn zl zk zt vl vh zg zi zw (nI (cnt (SB (Bk S.1)) i)) zo ze vc vr vt vo (bI vm) vp va vb vd vq zd vz :: aI cI zs 28 gs :: aI cI zg 200 (upd (loA (SB (Bk S.1)) gg i) i (-1)) :: aI cI zi 100 (upd (scA (SB (Bk S.1)) (fun j => nI j) gi i) (cnt (SB (Bk S.1)) i) (nI i)) :: aI cI zw 100 (upd (leA (SB (Bk S.1)) gw i) (cnt (SB (Bk S.1)) i) 0) :: X) H := hP
            have hD : va_D A (oX9 mo zs zv vn zl zk zt vl vh zg zi zw (nI (cnt (SB (Bk S.1)) i)) zo ze vc vr vt vo (bI vm) vp va vb vd vq zd vz :: aI cI zs 28 gs :: aI cI zg 200 (upd (loA (SB (Bk S.1)) gg i) i (-1)) :: aI cI zi 100 (upd (scA (SB (Bk S.1)) (fun j => nI j) gi i) (cnt (SB (Bk S.1)) i) (nI i)) :: aI cI zw 100 (upd (leA (SB (Bk S.1)) gw i) (cnt (SB (Bk S.1)) i) 0) :: X) := hD
            refine lv_aload_n hx hb dX9_findLedges_76 rfl (lv_at hl 3 rfl) ?_
            refine lv_dup hx hb dX9_findLedges_77 rfl ?_
            refine va_get (D := D) (ci := 9) (v := .int (nI (cnt (SB (Bk S.1)) i))) (C := RX9) (T := TX9) (N := 26) hx hb hts hiX9 hown hK hP 0 rfl rfl 11 (by decide) (hts (.fieldLink RX9 66 "LedgeLeapsModel" "ledges" "I") (List.mem_of_getElem? (i := 1) rfl)) (fun _ h9 => h9) rfl dX9_findLedges_78 ?_
            refine lv_iconst (v := 1) hx hb dX9_findLedges_81 (by decide) ?_
            refine lv_iadd hx hb dX9_findLedges_82 ?_
            refine top_i (y := (nI ((cnt (SB (Bk S.1)) i) + 1))) (nI_1 _) ?_
            refine va_put (D := D) (ci := 9) (v := .int (nI ((cnt (SB (Bk S.1)) i) + 1))) (ty := .int) (C := RX9) (T := TX9) (N := 26) hx hb hts hiX9 tyX9 tyX9_ok nmX9 hown hK hP hD hS 0 rfl rfl 11 (by decide) (hts (.fieldLink RX9 66 "LedgeLeapsModel" "ledges" "I") (List.mem_of_getElem? (i := 1) rfl)) (fun _ h9 => h9) rfl (by decide +kernel) rfl rfl (Nat.le_of_ble_eq_true rfl) dX9_findLedges_83 (fun H locs hP hD hS => ?_)
            have hP : va_P D vwCl (oX9 mo zs zv vn zl zk zt vl vh zg zi zw (nI ((cnt (SB (Bk S.1)) i) + 1)) zo ze vc vr vt vo (bI vm) vp va vb vd vq zd vz :: aI cI zs 28 gs :: aI cI zg 200 (upd (loA (SB (Bk S.1)) gg i) i (-1)) :: aI cI zi 100 (upd (scA (SB (Bk S.1)) (fun j => nI j) gi i) (cnt (SB (Bk S.1)) i) (nI i)) :: aI cI zw 100 (upd (leA (SB (Bk S.1)) gw i) (cnt (SB (Bk S.1)) i) 0) :: X) H := hP
            have hD : va_D A (oX9 mo zs zv vn zl zk zt vl vh zg zi zw (nI ((cnt (SB (Bk S.1)) i) + 1)) zo ze vc vr vt vo (bI vm) vp va vb vd vq zd vz :: aI cI zs 28 gs :: aI cI zg 200 (upd (loA (SB (Bk S.1)) gg i) i (-1)) :: aI cI zi 100 (upd (scA (SB (Bk S.1)) (fun j => nI j) gi i) (cnt (SB (Bk S.1)) i) (nI i)) :: aI cI zw 100 (upd (leA (SB (Bk S.1)) gw i) (cnt (SB (Bk S.1)) i) 0) :: X) := hD
            refine lv_aload_n hx hb dX9_findLedges_86 rfl (lv_at hl 3 rfl) ?_
            refine va_get (D := D) (ci := 9) (v := .ref zg) (C := RX9) (T := TX9) (N := 26) hx hb hts hiX9 hown hK hP 0 rfl rfl 8 (by decide) (hts (.fieldLink RX9 26 "LedgeLeapsModel" "ledge" "[I") (List.mem_of_getElem? (i := 2) rfl)) (fun _ h9 => h9) rfl dX9_findLedges_87 ?_
            refine lv_iload_n hx hb dX9_findLedges_90 rfl (lv_at hl 2 rfl) ?_
            refine lv_aload_n hx hb dX9_findLedges_91 rfl (lv_at hl 3 rfl) ?_
            refine va_get (D := D) (ci := 9) (v := .int (nI ((cnt (SB (Bk S.1)) i) + 1))) (C := RX9) (T := TX9) (N := 26) hx hb hts hiX9 hown hK hP 0 rfl rfl 11 (by decide) (hts (.fieldLink RX9 66 "LedgeLeapsModel" "ledges" "I") (List.mem_of_getElem? (i := 1) rfl)) (fun _ h9 => h9) rfl dX9_findLedges_92 ?_
            refine lv_iconst (v := 1) hx hb dX9_findLedges_95 (by decide) ?_
            refine lv_isub hx hb dX9_findLedges_96 ?_
            refine top_i (y := (nI (cnt (SB (Bk S.1)) i))) (nI_pred _) ?_
            refine va_iast hx hb hK hP hD hS 2 0 rfl rfl (vp_ix (e := i) (rfl) (hi2) (by decide)) dX9_findLedges_97 (fun H locs hP hD hS => ?_)
            rw [cl_ix (x := (nI i)) (e := i) (n := 200) (rfl) (hi2) (by decide)] at hP hD
            have hP : va_P D vwCl (oX9 mo zs zv vn zl zk zt vl vh zg zi zw (nI ((cnt (SB (Bk S.1)) i) + 1)) zo ze vc vr vt vo (bI vm) vp va vb vd vq zd vz :: aI cI zs 28 gs :: aI cI zg 200 (upd (upd (loA (SB (Bk S.1)) gg i) i (-1)) i (nI (cnt (SB (Bk S.1)) i))) :: aI cI zi 100 (upd (scA (SB (Bk S.1)) (fun j => nI j) gi i) (cnt (SB (Bk S.1)) i) (nI i)) :: aI cI zw 100 (upd (leA (SB (Bk S.1)) gw i) (cnt (SB (Bk S.1)) i) 0) :: X) H := hP
            have hD : va_D A (oX9 mo zs zv vn zl zk zt vl vh zg zi zw (nI ((cnt (SB (Bk S.1)) i) + 1)) zo ze vc vr vt vo (bI vm) vp va vb vd vq zd vz :: aI cI zs 28 gs :: aI cI zg 200 (upd (upd (loA (SB (Bk S.1)) gg i) i (-1)) i (nI (cnt (SB (Bk S.1)) i))) :: aI cI zi 100 (upd (scA (SB (Bk S.1)) (fun j => nI j) gi i) (cnt (SB (Bk S.1)) i) (nI i)) :: aI cI zw 100 (upd (leA (SB (Bk S.1)) gw i) (cnt (SB (Bk S.1)) i) 0) :: X) := hD
            refine lv_aload_n hx hb dX9_findLedges_98 rfl (lv_at hl 3 rfl) ?_
            refine va_get (D := D) (ci := 9) (v := .ref zw) (C := RX9) (T := TX9) (N := 26) hx hb hts hiX9 hown hK hP 0 rfl rfl 10 (by decide) (hts (.fieldLink RX9 32 "LedgeLeapsModel" "wide" "[I") (List.mem_of_getElem? (i := 4) rfl)) (fun _ h9 => h9) rfl dX9_findLedges_99 ?_
            refine lv_aload_n hx hb dX9_findLedges_102 rfl (lv_at hl 3 rfl) ?_
            refine va_get (D := D) (ci := 9) (v := .int (nI ((cnt (SB (Bk S.1)) i) + 1))) (C := RX9) (T := TX9) (N := 26) hx hb hts hiX9 hown hK hP 0 rfl rfl 11 (by decide) (hts (.fieldLink RX9 66 "LedgeLeapsModel" "ledges" "I") (List.mem_of_getElem? (i := 1) rfl)) (fun _ h9 => h9) rfl dX9_findLedges_103 ?_
            refine lv_iconst (v := 1) hx hb dX9_findLedges_106 (by decide) ?_
            refine lv_isub hx hb dX9_findLedges_107 ?_
            refine top_i (y := (nI (cnt (SB (Bk S.1)) i))) (nI_pred _) ?_
            refine lv_dup2_11 hx hb dX9_findLedges_108 rfl rfl ?_
            refine va_iald hx hb hK hP 4 0 rfl rfl (vp_ix (e := (cnt (SB (Bk S.1)) i)) (rfl) (hcl) (by decide)) dX9_findLedges_109 ?_
            refine top_i (y := ((upd (leA (SB (Bk S.1)) gw i) (cnt (SB (Bk S.1)) i) 0) (cnt (SB (Bk S.1)) i))) (ld_ix (f := (upd (leA (SB (Bk S.1)) gw i) (cnt (SB (Bk S.1)) i) 0)) (x := (nI (cnt (SB (Bk S.1)) i))) (e := (cnt (SB (Bk S.1)) i)) (n := 100) (rfl) (hcl) (by decide)) ?_
            refine top_i (y := 0) pk_us ?_
            refine lv_iconst (v := 1) hx hb dX9_findLedges_110 (by decide) ?_
            refine lv_iadd hx hb dX9_findLedges_111 ?_
            refine top_i (y := 1) (by decide) ?_
            refine va_iast hx hb hK hP hD hS 4 0 rfl rfl (vp_ix (e := (cnt (SB (Bk S.1)) i)) (rfl) (hcl) (by decide)) dX9_findLedges_112 (fun H locs hP hD hS => ?_)
            rw [cl_ix (x := (nI (cnt (SB (Bk S.1)) i))) (e := (cnt (SB (Bk S.1)) i)) (n := 100) (rfl) (hcl) (by decide)] at hP hD
            have hP : va_P D vwCl (oX9 mo zs zv vn zl zk zt vl vh zg zi zw (nI ((cnt (SB (Bk S.1)) i) + 1)) zo ze vc vr vt vo (bI vm) vp va vb vd vq zd vz :: aI cI zs 28 gs :: aI cI zg 200 (upd (upd (loA (SB (Bk S.1)) gg i) i (-1)) i (nI (cnt (SB (Bk S.1)) i))) :: aI cI zi 100 (upd (scA (SB (Bk S.1)) (fun j => nI j) gi i) (cnt (SB (Bk S.1)) i) (nI i)) :: aI cI zw 100 (upd (upd (leA (SB (Bk S.1)) gw i) (cnt (SB (Bk S.1)) i) 0) (cnt (SB (Bk S.1)) i) 1) :: X) H := hP
            have hD : va_D A (oX9 mo zs zv vn zl zk zt vl vh zg zi zw (nI ((cnt (SB (Bk S.1)) i) + 1)) zo ze vc vr vt vo (bI vm) vp va vb vd vq zd vz :: aI cI zs 28 gs :: aI cI zg 200 (upd (upd (loA (SB (Bk S.1)) gg i) i (-1)) i (nI (cnt (SB (Bk S.1)) i))) :: aI cI zi 100 (upd (scA (SB (Bk S.1)) (fun j => nI j) gi i) (cnt (SB (Bk S.1)) i) (nI i)) :: aI cI zw 100 (upd (upd (leA (SB (Bk S.1)) gw i) (cnt (SB (Bk S.1)) i) 0) (cnt (SB (Bk S.1)) i) 1) :: X) := hD
            refine lv_iinc (v := (nI (i + 1))) (lv' := [(1, .int (nI (i + 1))), (3, .int (nI (i / 20))), (2, .int (nI (i % 20))), (0, .ref mo)]) hx hb dX9_findLedges_113 hl (k := 2) rfl (nI_1 i) (by decide) rfl (fun ls hl => ?_)
            refine lv_goto (tgt := 7) hx hb dX9_findLedges_116 (by decide) ?_
            have h1e : upd (scA (SB (Bk S.1)) (fun j => nI j) gi i) (cnt (SB (Bk S.1)) i) (nI i) = scA (SB (Bk S.1)) (fun j => nI j) gi (i + 1) := by rw [scA, if_pos hst]
            have h2e : upd (upd (leA (SB (Bk S.1)) gw i) (cnt (SB (Bk S.1)) i) 0) (cnt (SB (Bk S.1)) i) 1 = leA (SB (Bk S.1)) gw (i + 1) := by rw [upd_upd, leA, if_pos hst]
            have h4e : (cnt (SB (Bk S.1)) i) + 1 = cnt (SB (Bk S.1)) (i + 1) := by rw [cnt, if_pos hst]
            have h3e : upd (upd (loA (SB (Bk S.1)) gg i) i (-1)) i (nI (cnt (SB (Bk S.1)) i)) = loA (SB (Bk S.1)) gg (i + 1) := by rw [upd_upd, loA, lgF, if_pos hSi, ← h4e, Nat.add_sub_cancel]
            rw [h1e, h2e, h3e, h4e] at hP hD
            exact ih_7 (i + 1) (by omega) (by omega) _ _ (hP) (hD) hS _ (lv_sub hl [0, 3] rfl)
          · have hm : ¬ i % 20 = 0 := fun q => c_41 (by rw [q]; rfl)
            refine lv_aload_n hx hb dX9_findLedges_44 rfl (lv_at hl 3 rfl) ?_
            refine va_get (D := D) (ci := 9) (v := .ref zg) (C := RX9) (T := TX9) (N := 26) hx hb hts hiX9 hown hK hP 0 rfl rfl 8 (by decide) (hts (.fieldLink RX9 26 "LedgeLeapsModel" "ledge" "[I") (List.mem_of_getElem? (i := 2) rfl)) (fun _ h9 => h9) rfl dX9_findLedges_45 ?_
            refine lv_iload_n hx hb dX9_findLedges_48 rfl (lv_at hl 2 rfl) ?_
            refine lv_iconst (v := 1) hx hb dX9_findLedges_49 (by decide) ?_
            refine lv_isub hx hb dX9_findLedges_50 ?_
            refine top_i (y := (nI (i - 1))) (nI_sub1 (by omega)) ?_
            have hl9 : (upd (loA (SB (Bk S.1)) gg i) i (-1)) (i - 1) = lgF (SB (Bk S.1)) (i - 1) := (pk_un (by omega)).trans (loA_get i (i - 1) (by omega))
            refine va_iald hx hb hK hP 2 0 rfl rfl (vp_ix (e := (i - 1)) (rfl) (by omega) (by decide)) dX9_findLedges_51 ?_
            refine top_i (y := ((upd (loA (SB (Bk S.1)) gg i) i (-1)) (i - 1))) (ld_ix (f := (upd (loA (SB (Bk S.1)) gg i) i (-1))) (x := (nI (i - 1))) (e := (i - 1)) (n := 200) (rfl) (by omega) (by decide)) ?_
            refine lv_iconst (v := (-1)) hx hb dX9_findLedges_52 (by decide) ?_
            refine lv_icmp_ne (tgt := 86) hx hb dX9_findLedges_53 (by decide) (fun c_53 => ?_) (fun c_53 => ?_)
            · have hns : stt (SB (Bk S.1)) i = false := by unfold stt; rw [hSi, not_f (b := SB (Bk S.1) (i - 1)) (not_t fun q => c_53 (hl9.trans ((lgF_m (by omega) cnt_200).mpr (f_of_not q)))), decide_eq_false hm]; rfl
              have hcp := cnt_pos hSi hns
              have hcl2 : cnt (SB (Bk S.1)) i ≤ 100 := cnt_le (by omega)
              refine lv_aload_n hx hb dX9_findLedges_86 rfl (lv_at hl 3 rfl) ?_
              refine va_get (D := D) (ci := 9) (v := .ref zg) (C := RX9) (T := TX9) (N := 26) hx hb hts hiX9 hown hK hP 0 rfl rfl 8 (by decide) (hts (.fieldLink RX9 26 "LedgeLeapsModel" "ledge" "[I") (List.mem_of_getElem? (i := 2) rfl)) (fun _ h9 => h9) rfl dX9_findLedges_87 ?_
              refine lv_iload_n hx hb dX9_findLedges_90 rfl (lv_at hl 2 rfl) ?_
              refine lv_aload_n hx hb dX9_findLedges_91 rfl (lv_at hl 3 rfl) ?_
              refine va_get (D := D) (ci := 9) (v := .int (nI (cnt (SB (Bk S.1)) i))) (C := RX9) (T := TX9) (N := 26) hx hb hts hiX9 hown hK hP 0 rfl rfl 11 (by decide) (hts (.fieldLink RX9 66 "LedgeLeapsModel" "ledges" "I") (List.mem_of_getElem? (i := 1) rfl)) (fun _ h9 => h9) rfl dX9_findLedges_92 ?_
              refine lv_iconst (v := 1) hx hb dX9_findLedges_95 (by decide) ?_
              refine lv_isub hx hb dX9_findLedges_96 ?_
              refine top_i (y := (nI ((cnt (SB (Bk S.1)) i) - 1))) (nI_sub1 hcp.1) ?_
              refine va_iast hx hb hK hP hD hS 2 0 rfl rfl (vp_ix (e := i) (rfl) (hi2) (by decide)) dX9_findLedges_97 (fun H locs hP hD hS => ?_)
              rw [cl_ix (x := (nI i)) (e := i) (n := 200) (rfl) (hi2) (by decide)] at hP hD
              have hP : va_P D vwCl (oX9 mo zs zv vn zl zk zt vl vh zg zi zw (nI (cnt (SB (Bk S.1)) i)) zo ze vc vr vt vo (bI vm) vp va vb vd vq zd vz :: aI cI zs 28 gs :: aI cI zg 200 (upd (upd (loA (SB (Bk S.1)) gg i) i (-1)) i (nI ((cnt (SB (Bk S.1)) i) - 1))) :: aI cI zi 100 (scA (SB (Bk S.1)) (fun j => nI j) gi i) :: aI cI zw 100 (leA (SB (Bk S.1)) gw i) :: X) H := hP
              have hD : va_D A (oX9 mo zs zv vn zl zk zt vl vh zg zi zw (nI (cnt (SB (Bk S.1)) i)) zo ze vc vr vt vo (bI vm) vp va vb vd vq zd vz :: aI cI zs 28 gs :: aI cI zg 200 (upd (upd (loA (SB (Bk S.1)) gg i) i (-1)) i (nI ((cnt (SB (Bk S.1)) i) - 1))) :: aI cI zi 100 (scA (SB (Bk S.1)) (fun j => nI j) gi i) :: aI cI zw 100 (leA (SB (Bk S.1)) gw i) :: X) := hD
              refine lv_aload_n hx hb dX9_findLedges_98 rfl (lv_at hl 3 rfl) ?_
              refine va_get (D := D) (ci := 9) (v := .ref zw) (C := RX9) (T := TX9) (N := 26) hx hb hts hiX9 hown hK hP 0 rfl rfl 10 (by decide) (hts (.fieldLink RX9 32 "LedgeLeapsModel" "wide" "[I") (List.mem_of_getElem? (i := 4) rfl)) (fun _ h9 => h9) rfl dX9_findLedges_99 ?_
              refine lv_aload_n hx hb dX9_findLedges_102 rfl (lv_at hl 3 rfl) ?_
              refine va_get (D := D) (ci := 9) (v := .int (nI (cnt (SB (Bk S.1)) i))) (C := RX9) (T := TX9) (N := 26) hx hb hts hiX9 hown hK hP 0 rfl rfl 11 (by decide) (hts (.fieldLink RX9 66 "LedgeLeapsModel" "ledges" "I") (List.mem_of_getElem? (i := 1) rfl)) (fun _ h9 => h9) rfl dX9_findLedges_103 ?_
              refine lv_iconst (v := 1) hx hb dX9_findLedges_106 (by decide) ?_
              refine lv_isub hx hb dX9_findLedges_107 ?_
              refine top_i (y := (nI ((cnt (SB (Bk S.1)) i) - 1))) (nI_sub1 hcp.1) ?_
              refine lv_dup2_11 hx hb dX9_findLedges_108 rfl rfl ?_
              refine va_iald hx hb hK hP 4 0 rfl rfl (vp_ix (e := ((cnt (SB (Bk S.1)) i) - 1)) (rfl) (by omega) (by decide)) dX9_findLedges_109 ?_
              refine top_i (y := ((leA (SB (Bk S.1)) gw i) ((cnt (SB (Bk S.1)) i) - 1))) (ld_ix (f := (leA (SB (Bk S.1)) gw i)) (x := (nI ((cnt (SB (Bk S.1)) i) - 1))) (e := ((cnt (SB (Bk S.1)) i) - 1)) (n := 100) (rfl) (by omega) (by decide)) ?_
              refine lv_iconst (v := 1) hx hb dX9_findLedges_110 (by decide) ?_
              refine lv_iadd hx hb dX9_findLedges_111 ?_
              refine va_iast hx hb hK hP hD hS 4 0 rfl rfl (vp_ix (e := ((cnt (SB (Bk S.1)) i) - 1)) (rfl) (by omega) (by decide)) dX9_findLedges_112 (fun H locs hP hD hS => ?_)
              rw [cl_ix (x := (nI ((cnt (SB (Bk S.1)) i) - 1))) (e := ((cnt (SB (Bk S.1)) i) - 1)) (n := 100) (rfl) (by omega) (by decide)] at hP hD
              have hP : va_P D vwCl (oX9 mo zs zv vn zl zk zt vl vh zg zi zw (nI (cnt (SB (Bk S.1)) i)) zo ze vc vr vt vo (bI vm) vp va vb vd vq zd vz :: aI cI zs 28 gs :: aI cI zg 200 (upd (upd (loA (SB (Bk S.1)) gg i) i (-1)) i (nI ((cnt (SB (Bk S.1)) i) - 1))) :: aI cI zi 100 (scA (SB (Bk S.1)) (fun j => nI j) gi i) :: aI cI zw 100 (upd (leA (SB (Bk S.1)) gw i) ((cnt (SB (Bk S.1)) i) - 1) (((leA (SB (Bk S.1)) gw i) ((cnt (SB (Bk S.1)) i) - 1)) + 1)) :: X) H := hP
              have hD : va_D A (oX9 mo zs zv vn zl zk zt vl vh zg zi zw (nI (cnt (SB (Bk S.1)) i)) zo ze vc vr vt vo (bI vm) vp va vb vd vq zd vz :: aI cI zs 28 gs :: aI cI zg 200 (upd (upd (loA (SB (Bk S.1)) gg i) i (-1)) i (nI ((cnt (SB (Bk S.1)) i) - 1))) :: aI cI zi 100 (scA (SB (Bk S.1)) (fun j => nI j) gi i) :: aI cI zw 100 (upd (leA (SB (Bk S.1)) gw i) ((cnt (SB (Bk S.1)) i) - 1) (((leA (SB (Bk S.1)) gw i) ((cnt (SB (Bk S.1)) i) - 1)) + 1)) :: X) := hD
              refine lv_iinc (v := (nI (i + 1))) (lv' := [(1, .int (nI (i + 1))), (3, .int (nI (i / 20))), (2, .int (nI (i % 20))), (0, .ref mo)]) hx hb dX9_findLedges_113 hl (k := 2) rfl (nI_1 i) (by decide) rfl (fun ls hl => ?_)
              refine lv_goto (tgt := 7) hx hb dX9_findLedges_116 (by decide) ?_
              have h1e : scA (SB (Bk S.1)) (fun j => nI j) gi (i + 1) = (scA (SB (Bk S.1)) (fun j => nI j) gi i) := by rw [scA, if_neg (by rw [hns]; decide)]
              have h2e : upd (leA (SB (Bk S.1)) gw i) ((cnt (SB (Bk S.1)) i) - 1) ((leA (SB (Bk S.1)) gw i) ((cnt (SB (Bk S.1)) i) - 1) + 1) = leA (SB (Bk S.1)) gw (i + 1) := by rw [leA, if_neg (by rw [hns]; decide), if_pos hSi]
              have h4e : cnt (SB (Bk S.1)) (i + 1) = (cnt (SB (Bk S.1)) i) := by rw [cnt, if_neg (by rw [hns]; decide)]
              have h3e : upd (upd (loA (SB (Bk S.1)) gg i) i (-1)) i (nI ((cnt (SB (Bk S.1)) i) - 1)) = loA (SB (Bk S.1)) gg (i + 1) := by rw [upd_upd, loA, lgF, if_pos hSi, h4e]
              rw [h2e, h3e, ← h1e, ← h4e] at hP hD
              exact ih_7 (i + 1) (by omega) (by omega) _ _ (hP) (hD) hS _ (lv_sub hl [0, 3] rfl)
            · have hst : stt (SB (Bk S.1)) i = true := by unfold stt; rw [hSi, (lgF_m (by omega) cnt_200).mp (hl9.symm.trans c_53)]; simp
              have hcl := cnt_lt (by omega) hst
              refine lv_aload_n hx hb dX9_findLedges_56 rfl (lv_at hl 3 rfl) ?_
              refine va_get (D := D) (ci := 9) (v := .ref zi) (C := RX9) (T := TX9) (N := 26) hx hb hts hiX9 hown hK hP 0 rfl rfl 9 (by decide) (hts (.fieldLink RX9 29 "LedgeLeapsModel" "first" "[I") (List.mem_of_getElem? (i := 3) rfl)) (fun _ h9 => h9) rfl dX9_findLedges_57 ?_
              refine lv_aload_n hx hb dX9_findLedges_60 rfl (lv_at hl 3 rfl) ?_
              refine va_get (D := D) (ci := 9) (v := .int (nI (cnt (SB (Bk S.1)) i))) (C := RX9) (T := TX9) (N := 26) hx hb hts hiX9 hown hK hP 0 rfl rfl 11 (by decide) (hts (.fieldLink RX9 66 "LedgeLeapsModel" "ledges" "I") (List.mem_of_getElem? (i := 1) rfl)) (fun _ h9 => h9) rfl dX9_findLedges_61 ?_
              refine lv_iload_n hx hb dX9_findLedges_64 rfl (lv_at hl 2 rfl) ?_
              refine va_iast hx hb hK hP hD hS 3 0 rfl rfl (vp_ix (e := (cnt (SB (Bk S.1)) i)) (rfl) (hcl) (by decide)) dX9_findLedges_65 (fun H locs hP hD hS => ?_)
              rw [cl_ix (x := (nI (cnt (SB (Bk S.1)) i))) (e := (cnt (SB (Bk S.1)) i)) (n := 100) (rfl) (hcl) (by decide)] at hP hD
              have hP : va_P D vwCl (oX9 mo zs zv vn zl zk zt vl vh zg zi zw (nI (cnt (SB (Bk S.1)) i)) zo ze vc vr vt vo (bI vm) vp va vb vd vq zd vz :: aI cI zs 28 gs :: aI cI zg 200 (upd (loA (SB (Bk S.1)) gg i) i (-1)) :: aI cI zi 100 (upd (scA (SB (Bk S.1)) (fun j => nI j) gi i) (cnt (SB (Bk S.1)) i) (nI i)) :: aI cI zw 100 (leA (SB (Bk S.1)) gw i) :: X) H := hP
              have hD : va_D A (oX9 mo zs zv vn zl zk zt vl vh zg zi zw (nI (cnt (SB (Bk S.1)) i)) zo ze vc vr vt vo (bI vm) vp va vb vd vq zd vz :: aI cI zs 28 gs :: aI cI zg 200 (upd (loA (SB (Bk S.1)) gg i) i (-1)) :: aI cI zi 100 (upd (scA (SB (Bk S.1)) (fun j => nI j) gi i) (cnt (SB (Bk S.1)) i) (nI i)) :: aI cI zw 100 (leA (SB (Bk S.1)) gw i) :: X) := hD
              refine lv_aload_n hx hb dX9_findLedges_66 rfl (lv_at hl 3 rfl) ?_
              refine va_get (D := D) (ci := 9) (v := .ref zw) (C := RX9) (T := TX9) (N := 26) hx hb hts hiX9 hown hK hP 0 rfl rfl 10 (by decide) (hts (.fieldLink RX9 32 "LedgeLeapsModel" "wide" "[I") (List.mem_of_getElem? (i := 4) rfl)) (fun _ h9 => h9) rfl dX9_findLedges_67 ?_
              refine lv_aload_n hx hb dX9_findLedges_70 rfl (lv_at hl 3 rfl) ?_
              refine va_get (D := D) (ci := 9) (v := .int (nI (cnt (SB (Bk S.1)) i))) (C := RX9) (T := TX9) (N := 26) hx hb hts hiX9 hown hK hP 0 rfl rfl 11 (by decide) (hts (.fieldLink RX9 66 "LedgeLeapsModel" "ledges" "I") (List.mem_of_getElem? (i := 1) rfl)) (fun _ h9 => h9) rfl dX9_findLedges_71 ?_
              refine lv_iconst (v := 0) hx hb dX9_findLedges_74 (by decide) ?_
              refine va_iast hx hb hK hP hD hS 4 0 rfl rfl (vp_ix (e := (cnt (SB (Bk S.1)) i)) (rfl) (hcl) (by decide)) dX9_findLedges_75 (fun H locs hP hD hS => ?_)
              rw [cl_ix (x := (nI (cnt (SB (Bk S.1)) i))) (e := (cnt (SB (Bk S.1)) i)) (n := 100) (rfl) (hcl) (by decide)] at hP hD
              have hP : va_P D vwCl (oX9 mo zs zv vn zl zk zt vl vh zg zi zw (nI (cnt (SB (Bk S.1)) i)) zo ze vc vr vt vo (bI vm) vp va vb vd vq zd vz :: aI cI zs 28 gs :: aI cI zg 200 (upd (loA (SB (Bk S.1)) gg i) i (-1)) :: aI cI zi 100 (upd (scA (SB (Bk S.1)) (fun j => nI j) gi i) (cnt (SB (Bk S.1)) i) (nI i)) :: aI cI zw 100 (upd (leA (SB (Bk S.1)) gw i) (cnt (SB (Bk S.1)) i) 0) :: X) H := hP
              have hD : va_D A (oX9 mo zs zv vn zl zk zt vl vh zg zi zw (nI (cnt (SB (Bk S.1)) i)) zo ze vc vr vt vo (bI vm) vp va vb vd vq zd vz :: aI cI zs 28 gs :: aI cI zg 200 (upd (loA (SB (Bk S.1)) gg i) i (-1)) :: aI cI zi 100 (upd (scA (SB (Bk S.1)) (fun j => nI j) gi i) (cnt (SB (Bk S.1)) i) (nI i)) :: aI cI zw 100 (upd (leA (SB (Bk S.1)) gw i) (cnt (SB (Bk S.1)) i) 0) :: X) := hD
              refine lv_aload_n hx hb dX9_findLedges_76 rfl (lv_at hl 3 rfl) ?_
              refine lv_dup hx hb dX9_findLedges_77 rfl ?_
              refine va_get (D := D) (ci := 9) (v := .int (nI (cnt (SB (Bk S.1)) i))) (C := RX9) (T := TX9) (N := 26) hx hb hts hiX9 hown hK hP 0 rfl rfl 11 (by decide) (hts (.fieldLink RX9 66 "LedgeLeapsModel" "ledges" "I") (List.mem_of_getElem? (i := 1) rfl)) (fun _ h9 => h9) rfl dX9_findLedges_78 ?_
              refine lv_iconst (v := 1) hx hb dX9_findLedges_81 (by decide) ?_
              refine lv_iadd hx hb dX9_findLedges_82 ?_
              refine top_i (y := (nI ((cnt (SB (Bk S.1)) i) + 1))) (nI_1 _) ?_
              refine va_put (D := D) (ci := 9) (v := .int (nI ((cnt (SB (Bk S.1)) i) + 1))) (ty := .int) (C := RX9) (T := TX9) (N := 26) hx hb hts hiX9 tyX9 tyX9_ok nmX9 hown hK hP hD hS 0 rfl rfl 11 (by decide) (hts (.fieldLink RX9 66 "LedgeLeapsModel" "ledges" "I") (List.mem_of_getElem? (i := 1) rfl)) (fun _ h9 => h9) rfl (by decide +kernel) rfl rfl (Nat.le_of_ble_eq_true rfl) dX9_findLedges_83 (fun H locs hP hD hS => ?_)
              have hP : va_P D vwCl (oX9 mo zs zv vn zl zk zt vl vh zg zi zw (nI ((cnt (SB (Bk S.1)) i) + 1)) zo ze vc vr vt vo (bI vm) vp va vb vd vq zd vz :: aI cI zs 28 gs :: aI cI zg 200 (upd (loA (SB (Bk S.1)) gg i) i (-1)) :: aI cI zi 100 (upd (scA (SB (Bk S.1)) (fun j => nI j) gi i) (cnt (SB (Bk S.1)) i) (nI i)) :: aI cI zw 100 (upd (leA (SB (Bk S.1)) gw i) (cnt (SB (Bk S.1)) i) 0) :: X) H := hP
              have hD : va_D A (oX9 mo zs zv vn zl zk zt vl vh zg zi zw (nI ((cnt (SB (Bk S.1)) i) + 1)) zo ze vc vr vt vo (bI vm) vp va vb vd vq zd vz :: aI cI zs 28 gs :: aI cI zg 200 (upd (loA (SB (Bk S.1)) gg i) i (-1)) :: aI cI zi 100 (upd (scA (SB (Bk S.1)) (fun j => nI j) gi i) (cnt (SB (Bk S.1)) i) (nI i)) :: aI cI zw 100 (upd (leA (SB (Bk S.1)) gw i) (cnt (SB (Bk S.1)) i) 0) :: X) := hD
              refine lv_aload_n hx hb dX9_findLedges_86 rfl (lv_at hl 3 rfl) ?_
              refine va_get (D := D) (ci := 9) (v := .ref zg) (C := RX9) (T := TX9) (N := 26) hx hb hts hiX9 hown hK hP 0 rfl rfl 8 (by decide) (hts (.fieldLink RX9 26 "LedgeLeapsModel" "ledge" "[I") (List.mem_of_getElem? (i := 2) rfl)) (fun _ h9 => h9) rfl dX9_findLedges_87 ?_
              refine lv_iload_n hx hb dX9_findLedges_90 rfl (lv_at hl 2 rfl) ?_
              refine lv_aload_n hx hb dX9_findLedges_91 rfl (lv_at hl 3 rfl) ?_
              refine va_get (D := D) (ci := 9) (v := .int (nI ((cnt (SB (Bk S.1)) i) + 1))) (C := RX9) (T := TX9) (N := 26) hx hb hts hiX9 hown hK hP 0 rfl rfl 11 (by decide) (hts (.fieldLink RX9 66 "LedgeLeapsModel" "ledges" "I") (List.mem_of_getElem? (i := 1) rfl)) (fun _ h9 => h9) rfl dX9_findLedges_92 ?_
              refine lv_iconst (v := 1) hx hb dX9_findLedges_95 (by decide) ?_
              refine lv_isub hx hb dX9_findLedges_96 ?_
              refine top_i (y := (nI (cnt (SB (Bk S.1)) i))) (nI_pred _) ?_
              refine va_iast hx hb hK hP hD hS 2 0 rfl rfl (vp_ix (e := i) (rfl) (hi2) (by decide)) dX9_findLedges_97 (fun H locs hP hD hS => ?_)
              rw [cl_ix (x := (nI i)) (e := i) (n := 200) (rfl) (hi2) (by decide)] at hP hD
              have hP : va_P D vwCl (oX9 mo zs zv vn zl zk zt vl vh zg zi zw (nI ((cnt (SB (Bk S.1)) i) + 1)) zo ze vc vr vt vo (bI vm) vp va vb vd vq zd vz :: aI cI zs 28 gs :: aI cI zg 200 (upd (upd (loA (SB (Bk S.1)) gg i) i (-1)) i (nI (cnt (SB (Bk S.1)) i))) :: aI cI zi 100 (upd (scA (SB (Bk S.1)) (fun j => nI j) gi i) (cnt (SB (Bk S.1)) i) (nI i)) :: aI cI zw 100 (upd (leA (SB (Bk S.1)) gw i) (cnt (SB (Bk S.1)) i) 0) :: X) H := hP
              have hD : va_D A (oX9 mo zs zv vn zl zk zt vl vh zg zi zw (nI ((cnt (SB (Bk S.1)) i) + 1)) zo ze vc vr vt vo (bI vm) vp va vb vd vq zd vz :: aI cI zs 28 gs :: aI cI zg 200 (upd (upd (loA (SB (Bk S.1)) gg i) i (-1)) i (nI (cnt (SB (Bk S.1)) i))) :: aI cI zi 100 (upd (scA (SB (Bk S.1)) (fun j => nI j) gi i) (cnt (SB (Bk S.1)) i) (nI i)) :: aI cI zw 100 (upd (leA (SB (Bk S.1)) gw i) (cnt (SB (Bk S.1)) i) 0) :: X) := hD
              refine lv_aload_n hx hb dX9_findLedges_98 rfl (lv_at hl 3 rfl) ?_
              refine va_get (D := D) (ci := 9) (v := .ref zw) (C := RX9) (T := TX9) (N := 26) hx hb hts hiX9 hown hK hP 0 rfl rfl 10 (by decide) (hts (.fieldLink RX9 32 "LedgeLeapsModel" "wide" "[I") (List.mem_of_getElem? (i := 4) rfl)) (fun _ h9 => h9) rfl dX9_findLedges_99 ?_
              refine lv_aload_n hx hb dX9_findLedges_102 rfl (lv_at hl 3 rfl) ?_
              refine va_get (D := D) (ci := 9) (v := .int (nI ((cnt (SB (Bk S.1)) i) + 1))) (C := RX9) (T := TX9) (N := 26) hx hb hts hiX9 hown hK hP 0 rfl rfl 11 (by decide) (hts (.fieldLink RX9 66 "LedgeLeapsModel" "ledges" "I") (List.mem_of_getElem? (i := 1) rfl)) (fun _ h9 => h9) rfl dX9_findLedges_103 ?_
              refine lv_iconst (v := 1) hx hb dX9_findLedges_106 (by decide) ?_
              refine lv_isub hx hb dX9_findLedges_107 ?_
              refine top_i (y := (nI (cnt (SB (Bk S.1)) i))) (nI_pred _) ?_
              refine lv_dup2_11 hx hb dX9_findLedges_108 rfl rfl ?_
              refine va_iald hx hb hK hP 4 0 rfl rfl (vp_ix (e := (cnt (SB (Bk S.1)) i)) (rfl) (hcl) (by decide)) dX9_findLedges_109 ?_
              refine top_i (y := ((upd (leA (SB (Bk S.1)) gw i) (cnt (SB (Bk S.1)) i) 0) (cnt (SB (Bk S.1)) i))) (ld_ix (f := (upd (leA (SB (Bk S.1)) gw i) (cnt (SB (Bk S.1)) i) 0)) (x := (nI (cnt (SB (Bk S.1)) i))) (e := (cnt (SB (Bk S.1)) i)) (n := 100) (rfl) (hcl) (by decide)) ?_
              refine top_i (y := 0) pk_us ?_
              refine lv_iconst (v := 1) hx hb dX9_findLedges_110 (by decide) ?_
              refine lv_iadd hx hb dX9_findLedges_111 ?_
              refine top_i (y := 1) (by decide) ?_
              refine va_iast hx hb hK hP hD hS 4 0 rfl rfl (vp_ix (e := (cnt (SB (Bk S.1)) i)) (rfl) (hcl) (by decide)) dX9_findLedges_112 (fun H locs hP hD hS => ?_)
              rw [cl_ix (x := (nI (cnt (SB (Bk S.1)) i))) (e := (cnt (SB (Bk S.1)) i)) (n := 100) (rfl) (hcl) (by decide)] at hP hD
              have hP : va_P D vwCl (oX9 mo zs zv vn zl zk zt vl vh zg zi zw (nI ((cnt (SB (Bk S.1)) i) + 1)) zo ze vc vr vt vo (bI vm) vp va vb vd vq zd vz :: aI cI zs 28 gs :: aI cI zg 200 (upd (upd (loA (SB (Bk S.1)) gg i) i (-1)) i (nI (cnt (SB (Bk S.1)) i))) :: aI cI zi 100 (upd (scA (SB (Bk S.1)) (fun j => nI j) gi i) (cnt (SB (Bk S.1)) i) (nI i)) :: aI cI zw 100 (upd (upd (leA (SB (Bk S.1)) gw i) (cnt (SB (Bk S.1)) i) 0) (cnt (SB (Bk S.1)) i) 1) :: X) H := hP
              have hD : va_D A (oX9 mo zs zv vn zl zk zt vl vh zg zi zw (nI ((cnt (SB (Bk S.1)) i) + 1)) zo ze vc vr vt vo (bI vm) vp va vb vd vq zd vz :: aI cI zs 28 gs :: aI cI zg 200 (upd (upd (loA (SB (Bk S.1)) gg i) i (-1)) i (nI (cnt (SB (Bk S.1)) i))) :: aI cI zi 100 (upd (scA (SB (Bk S.1)) (fun j => nI j) gi i) (cnt (SB (Bk S.1)) i) (nI i)) :: aI cI zw 100 (upd (upd (leA (SB (Bk S.1)) gw i) (cnt (SB (Bk S.1)) i) 0) (cnt (SB (Bk S.1)) i) 1) :: X) := hD
              refine lv_iinc (v := (nI (i + 1))) (lv' := [(1, .int (nI (i + 1))), (3, .int (nI (i / 20))), (2, .int (nI (i % 20))), (0, .ref mo)]) hx hb dX9_findLedges_113 hl (k := 2) rfl (nI_1 i) (by decide) rfl (fun ls hl => ?_)
              refine lv_goto (tgt := 7) hx hb dX9_findLedges_116 (by decide) ?_
              have h1e : upd (scA (SB (Bk S.1)) (fun j => nI j) gi i) (cnt (SB (Bk S.1)) i) (nI i) = scA (SB (Bk S.1)) (fun j => nI j) gi (i + 1) := by rw [scA, if_pos hst]
              have h2e : upd (upd (leA (SB (Bk S.1)) gw i) (cnt (SB (Bk S.1)) i) 0) (cnt (SB (Bk S.1)) i) 1 = leA (SB (Bk S.1)) gw (i + 1) := by rw [upd_upd, leA, if_pos hst]
              have h4e : (cnt (SB (Bk S.1)) i) + 1 = cnt (SB (Bk S.1)) (i + 1) := by rw [cnt, if_pos hst]
              have h3e : upd (upd (loA (SB (Bk S.1)) gg i) i (-1)) i (nI (cnt (SB (Bk S.1)) i)) = loA (SB (Bk S.1)) gg (i + 1) := by rw [upd_upd, loA, lgF, if_pos hSi, ← h4e, Nat.add_sub_cancel]
              rw [h1e, h2e, h3e, h4e] at hP hD
              exact ih_7 (i + 1) (by omega) (by omega) _ _ (hP) (hD) hS _ (lv_sub hl [0, 3] rfl)
  exact loop_7 _ 0 (Nat.lt_succ_self _) (Nat.zero_le _) _ _ hP hD hS _ (lv_sub hl [0, 1] rfl)
