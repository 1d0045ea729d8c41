set_option maxHeartbeats 4000000 in
set_option maxRecDepth 100000 in
theorem n_awayFromRunner (l : Launch) (D : va_G) (cI cZ cW cJ : ClassId) (A : Nat → Prop) (X : va_W) (mo zs zv zl zk zt zg zi zw zo ze zd : Nat) (vn vl vh vc vr vt vo vp va vb vd vq : Int32) (vm : Bool) (vz : Int64) (gs gg gi gw go ge : Nat → Int32) (S : KS) (hS0 : AbsM S gs) (hWf : Wf S) (hM : MapM S gg gi gw) (hR : RchM S go) : Met l yX9_awayFromRunner wsX9_awayFromRunner ({ frames := 2, cells := 0, slots := 0, locals := 49 }) (va_Pc [.ref mo] (wd D (tyL cI cZ cW cJ) A (oX9 mo zs zv vn zl zk zt vl vh zg zi zw (nI (nS S)) zo ze vc vr vt vo (bI vm) vp va vb vd vq zd vz :: aI cI zs 28 gs :: aI cI zg 200 gg :: aI cI zi 100 gi :: aI cI zw 100 gw :: aI cI zo 10000 go :: aI cI ze 100 ge :: X))) (va_Qi (fun (r : Int32) (u : Nat → Int32) => r = nI (nS S) - nI (cntB (rcS S 3) (nS S)) ∧ ∀ b, b < nS S → u b = dS S 3 (owS S) b) (fun (u : Nat → Int32) t => wq D A (oX9 mo zs zv vn zl zk zt vl vh zg zi zw (nI (nS S)) zo ze vc vr vt vo (bI vm) vp va vb vd vq zd vz :: aI cI zs 28 gs :: aI cI zg 200 gg :: aI cI zi 100 gi :: aI cI zw 100 gw :: aI cI zo 10000 go :: aI cI ze 100 u :: X) t) A) 0 0 A := by
  refine Met.ofW (cc := cX9_awayFromRunner) (maxL := 3) (ret := (some .int)) (by decide) rfl ?_
  intro p e s m args below meth c s₁ B hml hv
  obtain ⟨rfl, hsz9, hP, hK, hD, hN⟩ := hv
  have hx := B.exec
  have hb := B.bytes
  have hr := B.returns
  have hts := atoms_spec (ws := wsX9_awayFromRunner) B.pre
  have hown : s.vm.findClass RX9 = some m.cls := findClass_of_methodNamed B.named
  have hlocks := B.notSynchronized
  have CF : CallFix p m c cX9_awayFromRunner 3 s _ wsX9_awayFromRunner RX9 := ⟨hx, hb, hml, hown, hts⟩
  have hA : ∀ q : Nat, s.heap.size ≤ q → A q := hsz9
  have hS : va_S A s.heap s.heap [] := va_S.rf
  have hiX9 : ∀ w ∈ u_ws RX9 TX9 26, w ∈ wsX9_awayFromRunner := fun _ h => List.mem_cons_of_mem _ (List.mem_append_right _ (h))
  have hl := lv_entry ([.ref mo]) (n := 3) (Nat.le_of_ble_eq_true rfl)
  rw [lg_entry_eq]
  generalize (lg_sl ([.ref mo]) ++ List.replicate (3 - (lg_sl ([.ref mo])).length) Slot.unset).toArray = ls at hl ⊢
  have hl : lv_has ls 3 [(0, .ref mo)] := hl
  show W p l e ({ frames := 2, cells := 0, slots := 0, locals := 49 } : Room) s m (([.ref mo] : List Value).toArray) below meth c s.heap [] 0 0 (MQ below (va_Qi (fun (r : Int32) (u : Nat → Int32) => r = nI (nS S) - nI (cntB (rcS S 3) (nS S)) ∧ ∀ b, b < nS S → u b = dS S 3 (owS S) b) (fun (u : Nat → Int32) t => wq D A (oX9 mo zs zv vn zl zk zt vl vh zg zi zw (nI (nS S)) zo ze vc vr vt vo (bI vm) vp va vb vd vq zd vz :: aI cI zs 28 gs :: aI cI zg 200 gg :: aI cI zi 100 gi :: aI cI zw 100 gw :: aI cI zo 10000 go :: aI cI ze 100 u :: X) t) A) (([.ref mo] : List Value).toArray) s 0 0 A) (F0 m 0 ls [])
  have hn9 : nS S ≤ 100 := nL_le _
  refine lv_aload_n hx hb dX9_awayFromRunner_0 rfl (lv_at hl 0 rfl) ?_
  refine lv_aload_n hx hb dX9_awayFromRunner_1 rfl (lv_at hl 0 rfl) ?_
  refine cV_i CF hK hN hA hS (cut_of 7 [0, 1, 2, 3, 4, 5, 6] hP hD rfl rfl rfl) (n_ownLedge l D cI cZ cW cJ A (aI cI zi 100 gi :: aI cI zw 100 gw :: aI cI zo 10000 go :: aI cI ze 100 ge :: X) mo zs zv zl zk zt zg zi zw zo ze zd vn vl vh (nI (nS S)) vc vr vt vo vp va vb vd vq vm vz gs gg S hS0 hWf) (cwV 0 hts gX9_awayFromRunner_X9_ownLedge rfl rfl rfl (by decide +kernel) ⟨Nat.le_of_ble_eq_true rfl, Nat.le_of_ble_eq_true rfl⟩) (As := []) (rest := [.ref mo]) (ci := 9) (q0 := 0) rfl rfl rfl hl.1 rfl (Nat.le_of_ble_eq_true rfl) dX9_awayFromRunner_2 ⟨Nat.le_of_ble_eq_true rfl, Nat.le_of_ble_eq_true rfl⟩ (fun r_2 _ H locs hq hP hD hS => ?_)
  have hq : r_2 = gg (20 * S.2.2.1.2 + S.2.2.1.1) := hq
  subst hq
  have hP : va_P D vwCl (oX9 mo zs zv vn zl zk zt vl vh zg zi zw (nI (nS S)) zo ze vc vr vt vo (bI vm) vp va vb vd vq zd vz :: aI cI zs 28 gs :: aI cI zg 200 gg :: aI cI zi 100 gi :: aI cI zw 100 gw :: aI cI zo 10000 go :: aI cI ze 100 ge :: X) H := pm_P hP 7 [0, 1, 2, 3, 4, 5, 6] rfl
  have hD : va_D A (oX9 mo zs zv vn zl zk zt vl vh zg zi zw (nI (nS S)) zo ze vc vr vt vo (bI vm) vp va vb vd vq zd vz :: aI cI zs 28 gs :: aI cI zg 200 gg :: aI cI zi 100 gi :: aI cI zw 100 gw :: aI cI zo 10000 go :: aI cI ze 100 ge :: X) := pm_D hD 7 [0, 1, 2, 3, 4, 5, 6] rfl rfl rfl
  refine top_i (y := (nI (owS S))) (own_M hM hWf) ?_
  refine lv_iconst (v := 3) hx hb dX9_awayFromRunner_5 (by decide) ?_
  refine cV_v CF hK hN hA hS (cut_of 7 [0, 5, 6, 1, 2, 3, 4] hP hD rfl rfl rfl) (n_spread l D cI cZ cW cJ A (aI cI zs 28 gs :: aI cI zg 200 gg :: aI cI zi 100 gi :: aI cI zw 100 gw :: X) mo zs zv zl zk zt zg zi zw zo ze zd vn vl vh vc vr vt vo vp va vb vd vq vm vz go ge S (owS S) 3 hR ((owS_lt hWf).1) (by decide)) (cwV 2 hts gX9_awayFromRunner_X9_spread rfl rfl rfl (by decide +kernel) ⟨Nat.le_of_ble_eq_true rfl, Nat.le_of_ble_eq_true rfl⟩) (As := [.int (nI (owS S)), .int 3]) (rest := []) (ci := 9) (q0 := 0) rfl rfl rfl hl.1 rfl (Nat.le_of_ble_eq_true rfl) dX9_awayFromRunner_6 ⟨Nat.le_of_ble_eq_true rfl, Nat.le_of_ble_eq_true rfl⟩ (fun u_6 H locs hq hP hD hS => ?_)
  have hq_6 : ∀ b, b < nS S → u_6 b = dS S 3 (owS S) b := hq
  have hP : va_P D vwCl (oX9 mo zs zv vn zl zk zt vl vh zg zi zw (nI (nS S)) zo ze vc vr vt vo (bI vm) vp va vb vd vq zd vz :: aI cI zs 28 gs :: aI cI zg 200 gg :: aI cI zi 100 gi :: aI cI zw 100 gw :: aI cI zo 10000 go :: aI cI ze 100 u_6 :: X) H := pm_P hP 7 [0, 3, 4, 5, 6, 1, 2] rfl
  have hD : va_D A (oX9 mo zs zv vn zl zk zt vl vh zg zi zw (nI (nS S)) zo ze vc vr vt vo (bI vm) vp va vb vd vq zd vz :: aI cI zs 28 gs :: aI cI zg 200 gg :: aI cI zi 100 gi :: aI cI zw 100 gw :: aI cI zo 10000 go :: aI cI ze 100 u_6 :: X) := pm_D hD 7 [0, 3, 4, 5, 6, 1, 2] rfl rfl rfl
  refine lv_iconst (v := 0) hx hb dX9_awayFromRunner_9 (by decide) ?_
  refine lv_istore_n (lv' := [(1, .int 0), (0, .ref mo)]) hx hb dX9_awayFromRunner_10 rfl hl (by decide) rfl (fun ls hl => ?_)
  refine lv_iconst (v := 0) hx hb dX9_awayFromRunner_11 (by decide) ?_
  refine lv_istore_n (lv' := [(2, .int 0), (1, .int 0), (0, .ref mo)]) hx hb dX9_awayFromRunner_12 rfl hl (by decide) rfl (fun ls hl => ?_)
  have loop_13 : ∀ (nfu : Nat) (i : Nat) (hn_13 : nS S - i < nfu) (hi : i ≤ nS S) (H : Heap) (locs : List Loc) (hP : va_P D vwCl (oX9 mo zs zv vn zl zk zt vl vh zg zi zw (nI (nS S)) zo ze vc vr vt vo (bI vm) vp va vb vd vq zd vz :: aI cI zs 28 gs :: aI cI zg 200 gg :: aI cI zi 100 gi :: aI cI zw 100 gw :: aI cI zo 10000 go :: aI cI ze 100 u_6 :: X) H) (hD : va_D A (oX9 mo zs zv vn zl zk zt vl vh zg zi zw (nI (nS S)) zo ze vc vr vt vo (bI vm) vp va vb vd vq zd vz :: aI cI zs 28 gs :: aI cI zg 200 gg :: aI cI zi 100 gi :: aI cI zw 100 gw :: aI cI zo 10000 go :: aI cI ze 100 u_6 :: X)) (hS : va_S A s.heap H locs) (ls : Array Slot) (hl : lv_has ls 3 [(2, .int (nI i)), (1, .int (nI (cntB (fun b => decide (u_6 b = -1)) i))), (0, .ref mo)]), W p l e ({ frames := 2, cells := 0, slots := 0, locals := 49 } : Room) s m (([.ref mo] : List Value).toArray) below meth c H locs 0 0 (MQ below (va_Qi (fun (r : Int32) (u : Nat → Int32) => r = nI (nS S) - nI (cntB (rcS S 3) (nS S)) ∧ ∀ b, b < nS S → u b = dS S 3 (owS S) b) (fun (u : Nat → Int32) t => wq D A (oX9 mo zs zv vn zl zk zt vl vh zg zi zw (nI (nS S)) zo ze vc vr vt vo (bI vm) vp va vb vd vq zd vz :: aI cI zs 28 gs :: aI cI zg 200 gg :: aI cI zi 100 gi :: aI cI zw 100 gw :: aI cI zo 10000 go :: aI cI ze 100 u :: X) t) A) (([.ref mo] : List Value).toArray) s 0 0 A) (F0 m 13 ls []) := by
    intro nfu
    induction nfu with
    | zero => intro i hn_13; exact absurd hn_13 (Nat.not_lt_zero _)
    | succ nfu ih_13 =>
      intro i hn_13 hi H locs hP hD hS ls hl
      refine lv_iload_n hx hb dX9_awayFromRunner_13 rfl (lv_at hl 0 rfl) ?_
      refine lv_aload_n hx hb dX9_awayFromRunner_14 rfl (lv_at hl 2 rfl) ?_
      refine va_get (D := D) (ci := 9) (v := .int (nI (nS S))) (C := RX9) (T := TX9) (N := 26) hx hb hts hiX9 hown hK hP 0 rfl rfl 11 (by decide) (hts (.fieldLink RX9 66 "LedgeLeapsModel" "ledges" "I") (List.mem_of_getElem? (i := 1) rfl)) (fun _ h9 => h9) rfl dX9_awayFromRunner_15 ?_
      refine lv_icmp_ge (tgt := 45) hx hb dX9_awayFromRunner_18 (by decide) (fun c_18 => ?_) (fun c_18 => ?_)
      · have hi3 : i = nS S := by have h := le_of_ge (a := nS S) (b := i) (by omega) (by omega) c_18; omega
        refine lv_iload_n hx hb dX9_awayFromRunner_45 rfl (lv_at hl 1 rfl) ?_
        exact W.iret (v := (nI (cntB (fun b => decide (u_6 b = -1)) i))) hx hb hr (fun t9 ht9 hW9 => ⟨⟨(nI (cntB (fun b => decide (u_6 b = -1)) i)), u_6, rfl, ⟨by rw [hi3]; exact away_M hq_6, hq_6⟩, by rw [ht9]; exact hP, hD⟩, hS.F ht9⟩) hS.2.2 dX9_awayFromRunner_46
      · have hi2 : i < nS S := lt_of_nge (a := nS S) (b := i) (by omega) (by omega) c_18
        refine lv_iload_n hx hb dX9_awayFromRunner_21 rfl (lv_at hl 1 rfl) ?_
        refine lv_aload_n hx hb dX9_awayFromRunner_22 rfl (lv_at hl 2 rfl) ?_
        refine va_get (D := D) (ci := 9) (v := .ref ze) (C := RX9) (T := TX9) (N := 26) hx hb hts hiX9 hown hK hP 0 rfl rfl 13 (by decide) (hts (.fieldLink RX9 38 "LedgeLeapsModel" "fewest" "[I") (List.mem_of_getElem? (i := 2) rfl)) (fun _ h9 => h9) rfl dX9_awayFromRunner_23 ?_
        refine lv_iload_n hx hb dX9_awayFromRunner_26 rfl (lv_at hl 0 rfl) ?_
        refine va_iald hx hb hK hP 6 0 rfl rfl (vp_ix (e := i) (rfl) (by omega) (by decide)) dX9_awayFromRunner_27 ?_
        refine top_i (y := (u_6 i)) (ld_ix (f := u_6) (x := (nI i)) (e := i) (n := 100) (rfl) (by omega) (by decide)) ?_
        refine lv_iconst (v := (-1)) hx hb dX9_awayFromRunner_28 (by decide) ?_
        refine lv_icmp_ne (tgt := 36) hx hb dX9_awayFromRunner_29 (by decide) (fun c_29 => ?_) (fun c_29 => ?_)
        · refine lv_iconst (v := 0) hx hb dX9_awayFromRunner_36 (by decide) ?_
          refine lv_iadd hx hb dX9_awayFromRunner_37 ?_
          refine top_i (y := (nI (cntB (fun b => decide (u_6 b = -1)) (i + 1)))) (cntI_f (decide_eq_false c_29)) ?_
          refine lv_istore_n (lv' := [(1, .int (nI (cntB (fun b => decide (u_6 b = -1)) (i + 1)))), (2, .int (nI i)), (0, .ref mo)]) hx hb dX9_awayFromRunner_38 rfl hl (by decide) rfl (fun ls hl => ?_)
          refine lv_iinc (v := (nI (i + 1))) (lv' := [(2, .int (nI (i + 1))), (1, .int (nI (cntB (fun b => decide (u_6 b = -1)) (i + 1)))), (0, .ref mo)]) hx hb dX9_awayFromRunner_39 hl (k := 1) rfl (nI_1 i) (by decide) rfl (fun ls hl => ?_)
          refine lv_goto (tgt := 13) hx hb dX9_awayFromRunner_42 (by decide) ?_
          exact ih_13 (i + 1) (by omega) (by omega) _ _ (hP) (hD) hS _ (lv_sub hl [0, 1, 2] rfl)
        · refine lv_iconst (v := 1) hx hb dX9_awayFromRunner_32 (by decide) ?_
          refine lv_goto (tgt := 37) hx hb dX9_awayFromRunner_33 (by decide) ?_
          refine lv_iadd hx hb dX9_awayFromRunner_37 ?_
          refine top_i (y := (nI (cntB (fun b => decide (u_6 b = -1)) (i + 1)))) (cntI_t (decide_eq_true c_29)) ?_
          refine lv_istore_n (lv' := [(1, .int (nI (cntB (fun b => decide (u_6 b = -1)) (i + 1)))), (2, .int (nI i)), (0, .ref mo)]) hx hb dX9_awayFromRunner_38 rfl hl (by decide) rfl (fun ls hl => ?_)
          refine lv_iinc (v := (nI (i + 1))) (lv' := [(2, .int (nI (i + 1))), (1, .int (nI (cntB (fun b => decide (u_6 b = -1)) (i + 1)))), (0, .ref mo)]) hx hb dX9_awayFromRunner_39 hl (k := 1) rfl (nI_1 i) (by decide) rfl (fun ls hl => ?_)
          refine lv_goto (tgt := 13) hx hb dX9_awayFromRunner_42 (by decide) ?_
          exact ih_13 (i + 1) (by omega) (by omega) _ _ (hP) (hD) hS _ (lv_sub hl [0, 1, 2] rfl)
  exact loop_13 _ 0 (Nat.lt_succ_self _) (Nat.zero_le _) _ _ hP hD hS _ (lv_sub hl [0, 1, 2] rfl)
set_option maxHeartbeats 4000000 in
set_option maxRecDepth 100000 in
theorem n_others (l : Launch) (D : va_G) (cI cZ cW cJ : ClassId) (A : Nat → Prop) (X : va_W) (mo zs zv zl zk zt zg zi zw zo ze zd : Nat) (vn vl vh vc vr vt vo vp va vb vd vq : Int32) (vm : Bool) (vz : Int64) (go : Nat → Int32) (S : KS) (aa ak : Nat) (fr : Bool) (hR : RchM S go) (haa : aa < nS S) (hak : ak ≤ 3) : Met l yX9_others wsX9_others ({ frames := 1, cells := 0, slots := 0, locals := 23 }) (va_Pc [.ref mo, .int (nI aa), .int (nI ak), .int (bI fr)] (wd D (tyL cI cZ cW cJ) A (oX9 mo zs zv vn zl zk zt vl vh zg zi zw (nI (nS S)) zo ze vc vr vt vo (bI vm) vp va vb vd vq zd vz :: aI cI zo 10000 go :: X))) (va_Qi (fun (r : Int32) (u : Unit) => r = nI (cntB (fun to => !decide (to = aa) && (if fr = true then RS S ak aa to else RS S ak to aa)) (nS S))) (fun (u : Unit) t => wq D A (oX9 mo zs zv vn zl zk zt vl vh zg zi zw (nI (nS S)) zo ze vc vr vt vo (bI vm) vp va vb vd vq zd vz :: aI cI zo 10000 go :: X) t) A) 0 0 A := by
  refine Met.ofW (cc := cX9_others) (maxL := 6) (ret := (some .int)) (by decide) rfl ?_
  intro p e s m args below meth c s₁ B hml hv
  obtain ⟨rfl, hsz9, hP, hK, hD, hN⟩ := hv
  have hx := B.exec
  have hb := B.bytes
  have hr := B.returns
  have hts := atoms_spec (ws := wsX9_others) B.pre
  have hown : s.vm.findClass RX9 = some m.cls := findClass_of_methodNamed B.named
  have hlocks := B.notSynchronized
  have CF : CallFix p m c cX9_others 6 s _ wsX9_others RX9 := ⟨hx, hb, hml, hown, hts⟩
  have hA : ∀ q : Nat, s.heap.size ≤ q → A q := hsz9
  have hS : va_S A s.heap s.heap [] := va_S.rf
  have hiX9 : ∀ w ∈ u_ws RX9 TX9 26, w ∈ wsX9_others := fun _ h => List.mem_cons_of_mem _ (List.mem_append_right _ (h))
  have hl := lv_entry ([.ref mo, .int (nI aa), .int (nI ak), .int (bI fr)]) (n := 6) (Nat.le_of_ble_eq_true rfl)
  rw [lg_entry_eq]
  generalize (lg_sl ([.ref mo, .int (nI aa), .int (nI ak), .int (bI fr)]) ++ List.replicate (6 - (lg_sl ([.ref mo, .int (nI aa), .int (nI ak), .int (bI fr)])).length) Slot.unset).toArray = ls at hl ⊢
  have hl : lv_has ls 6 [(0, .ref mo), (1, .int (nI aa)), (2, .int (nI ak)), (3, .int (bI fr))] := hl
  show W p l e ({ frames := 1, cells := 0, slots := 0, locals := 23 } : Room) s m (([.ref mo, .int (nI aa), .int (nI ak), .int (bI fr)] : List Value).toArray) below meth c s.heap [] 0 0 (MQ below (va_Qi (fun (r : Int32) (u : Unit) => r = nI (cntB (fun to => !decide (to = aa) && (if fr = true then RS S ak aa to else RS S ak to aa)) (nS S))) (fun (u : Unit) t => wq D A (oX9 mo zs zv vn zl zk zt vl vh zg zi zw (nI (nS S)) zo ze vc vr vt vo (bI vm) vp va vb vd vq zd vz :: aI cI zo 10000 go :: X) t) A) (([.ref mo, .int (nI aa), .int (nI ak), .int (bI fr)] : List Value).toArray) s 0 0 A) (F0 m 0 ls [])
  have hn9 : nS S ≤ 100 := nL_le _
  refine lv_iconst (v := 0) hx hb dX9_others_0 (by decide) ?_
  refine lv_istore (lv' := [(4, .int 0), (0, .ref mo), (1, .int (nI aa)), (2, .int (nI ak)), (3, .int (bI fr))]) hx hb dX9_others_1 hl (by decide) rfl (fun ls hl => ?_)
  refine lv_iconst (v := 0) hx hb dX9_others_3 (by decide) ?_
  refine lv_istore (lv' := [(5, .int 0), (4, .int 0), (0, .ref mo), (1, .int (nI aa)), (2, .int (nI ak)), (3, .int (bI fr))]) hx hb dX9_others_4 hl (by decide) rfl (fun ls hl => ?_)
  have loop_6 : ∀ (nfu : Nat) (i : Nat) (hn_6 : nS S - i < nfu) (hi : i ≤ nS S) (H : Heap) (locs : List Loc) (hP : va_P D vwCl (oX9 mo zs zv vn zl zk zt vl vh zg zi zw (nI (nS S)) zo ze vc vr vt vo (bI vm) vp va vb vd vq zd vz :: aI cI zo 10000 go :: X) H) (hD : va_D A (oX9 mo zs zv vn zl zk zt vl vh zg zi zw (nI (nS S)) zo ze vc vr vt vo (bI vm) vp va vb vd vq zd vz :: aI cI zo 10000 go :: X)) (hS : va_S A s.heap H locs) (ls : Array Slot) (hl : lv_has ls 6 [(5, .int (nI i)), (4, .int (nI (cntB (fun to => !decide (to = aa) && (if fr = true then RS S ak aa to else RS S ak to aa)) i))), (0, .ref mo), (1, .int (nI aa)), (2, .int (nI ak)), (3, .int (bI fr))]), W p l e ({ frames := 1, cells := 0, slots := 0, locals := 23 } : Room) s m (([.ref mo, .int (nI aa), .int (nI ak), .int (bI fr)] : List Value).toArray) below meth c H locs 0 0 (MQ below (va_Qi (fun (r : Int32) (u : Unit) => r = nI (cntB (fun to => !decide (to = aa) && (if fr = true then RS S ak aa to else RS S ak to aa)) (nS S))) (fun (u : Unit) t => wq D A (oX9 mo zs zv vn zl zk zt vl vh zg zi zw (nI (nS S)) zo ze vc vr vt vo (bI vm) vp va vb vd vq zd vz :: aI cI zo 10000 go :: X) t) A) (([.ref mo, .int (nI aa), .int (nI ak), .int (bI fr)] : List Value).toArray) s 0 0 A) (F0 m 6 ls []) := by
    intro nfu
    induction nfu with
    | zero => intro i hn_6; exact absurd hn_6 (Nat.not_lt_zero _)
    | succ nfu ih_6 =>
      intro i hn_6 hi H locs hP hD hS ls hl
      refine lv_iload hx hb dX9_others_6 (lv_at hl 0 rfl) ?_
      refine lv_aload_n hx hb dX9_others_8 rfl (lv_at hl 2 rfl) ?_
      refine va_get (D := D) (ci := 9) (v := .int (nI (nS S))) (C := RX9) (T := TX9) (N := 26) hx hb hts hiX9 hown hK hP 0 rfl rfl 11 (by decide) (hts (.fieldLink RX9 66 "LedgeLeapsModel" "ledges" "I") (List.mem_of_getElem? (i := 1) rfl)) (fun _ h9 => h9) rfl dX9_others_9 ?_
      refine lv_icmp_ge (tgt := 66) hx hb dX9_others_12 (by decide) (fun c_12 => ?_) (fun c_12 => ?_)
      · have hi3 : i = nS S := by have h := le_of_ge (a := nS S) (b := i) (by omega) (by omega) c_12; omega
        refine lv_iload hx hb dX9_others_66 (lv_at hl 1 rfl) ?_
        exact W.iret (v := (nI (cntB (fun to => !decide (to = aa) && (if fr = true then RS S ak aa to else RS S ak to aa)) i))) hx hb hr (fun t9 ht9 hW9 => ⟨⟨(nI (cntB (fun to => !decide (to = aa) && (if fr = true then RS S ak aa to else RS S ak to aa)) i)), (), rfl, by rw [hi3], by rw [ht9]; exact hP, hD⟩, hS.F ht9⟩) hS.2.2 dX9_others_68
      · have hi2 : i < nS S := lt_of_nge (a := nS S) (b := i) (by omega) (by omega) c_12
        refine lv_iload hx hb dX9_others_15 (lv_at hl 1 rfl) ?_
        refine lv_iload hx hb dX9_others_17 (lv_at hl 0 rfl) ?_
        refine lv_iload_n hx hb dX9_others_19 rfl (lv_at hl 3 rfl) ?_
        refine lv_icmp_eq (tgt := 56) hx hb dX9_others_20 (by decide) (fun c_20 => ?_) (fun c_20 => ?_)
        · refine lv_iconst (v := 0) hx hb dX9_others_56 (by decide) ?_
          refine lv_iadd hx hb dX9_others_57 ?_
          refine top_i (y := (nI (cntB (fun to => !decide (to = aa) && (if fr = true then RS S ak aa to else RS S ak to aa)) (i + 1)))) (cntI_f (by rw [decide_eq_true (nI_inj (by omega) (by omega) c_20)]; rfl)) ?_
          refine lv_istore (lv' := [(4, .int (nI (cntB (fun to => !decide (to = aa) && (if fr = true then RS S ak aa to else RS S ak to aa)) (i + 1)))), (5, .int (nI i)), (0, .ref mo), (1, .int (nI aa)), (2, .int (nI ak)), (3, .int (bI fr))]) hx hb dX9_others_58 hl (by decide) rfl (fun ls hl => ?_)
          refine lv_iinc (v := (nI (i + 1))) (lv' := [(5, .int (nI (i + 1))), (4, .int (nI (cntB (fun to => !decide (to = aa) && (if fr = true then RS S ak aa to else RS S ak to aa)) (i + 1)))), (0, .ref mo), (1, .int (nI aa)), (2, .int (nI ak)), (3, .int (bI fr))]) hx hb dX9_others_60 hl (k := 1) rfl (nI_1 i) (by decide) rfl (fun ls hl => ?_)
          refine lv_goto (tgt := 6) hx hb dX9_others_63 (by decide) ?_
          exact ih_6 (i + 1) (by omega) (by omega) _ _ (hP) (hD) hS _ (lv_sub hl [0, 1, 2, 3, 4, 5] rfl)
        · refine lv_iload_n hx hb dX9_others_23 rfl (lv_at hl 5 rfl) ?_
          refine lv_if_eq (tgt := 41) hx hb dX9_others_24 (by decide) (fun c_24 => ?_) (fun c_24 => ?_)
          · refine lv_aload_n hx hb dX9_others_41 rfl (lv_at hl 2 rfl) ?_
            refine lv_iload hx hb dX9_others_42 (lv_at hl 0 rfl) ?_
            refine lv_iload_n hx hb dX9_others_44 rfl (lv_at hl 3 rfl) ?_
            refine lv_iload_n hx hb dX9_others_45 rfl (lv_at hl 4 rfl) ?_
            refine cV_i CF hK hN hA hS (cut_of 2 [0, 1] hP hD rfl rfl rfl) (n_comesTo l D cI cZ cW cJ A (X) mo zs zv zl zk zt zg zi zw zo ze zd vn vl vh (nI (nS S)) vc vr vt vo vp va vb vd vq vm vz go S i aa ak hR hi2 haa hak) (cwV 3 hts gX9_others_X9_comesTo rfl rfl rfl (by decide +kernel) ⟨Nat.le_of_ble_eq_true rfl, Nat.le_of_ble_eq_true rfl⟩) (As := [.int (nI i), .int (nI aa), .int (nI ak)]) (rest := [.int (nI (cntB (fun to => !decide (to = aa) && (if fr = true then RS S ak aa to else RS S ak to aa)) i))]) (ci := 9) (q0 := 0) rfl rfl rfl hl.1 rfl (Nat.le_of_ble_eq_true rfl) dX9_others_46 ⟨Nat.le_of_ble_eq_true rfl, Nat.le_of_ble_eq_true rfl⟩ (fun r_46 _ H locs hq hP hD hS => ?_)
            have hq : r_46 = bI (RS S ak i aa) := hq
            subst hq
            have hP : va_P D vwCl (oX9 mo zs zv vn zl zk zt vl vh zg zi zw (nI (nS S)) zo ze vc vr vt vo (bI vm) vp va vb vd vq zd vz :: aI cI zo 10000 go :: X) H := pm_P hP 2 [0, 1] rfl
            have hD : va_D A (oX9 mo zs zv vn zl zk zt vl vh zg zi zw (nI (nS S)) zo ze vc vr vt vo (bI vm) vp va vb vd vq zd vz :: aI cI zo 10000 go :: X) := pm_D hD 2 [0, 1] rfl rfl rfl
            refine lv_if_eq (tgt := 56) hx hb dX9_others_49 (by decide) (fun c_49 => ?_) (fun c_49 => ?_)
            · refine lv_iconst (v := 0) hx hb dX9_others_56 (by decide) ?_
              refine lv_iadd hx hb dX9_others_57 ?_
              refine top_i (y := (nI (cntB (fun to => !decide (to = aa) && (if fr = true then RS S ak aa to else RS S ak to aa)) (i + 1)))) (cntI_f (by rw [decide_eq_false (fun q => c_20 (by rw [q])), if_neg (fun q => by rw [bf_c c_24] at q; cases q), bf_c c_49]; rfl)) ?_
              refine lv_istore (lv' := [(4, .int (nI (cntB (fun to => !decide (to = aa) && (if fr = true then RS S ak aa to else RS S ak to aa)) (i + 1)))), (5, .int (nI i)), (0, .ref mo), (1, .int (nI aa)), (2, .int (nI ak)), (3, .int (bI fr))]) hx hb dX9_others_58 hl (by decide) rfl (fun ls hl => ?_)
              refine lv_iinc (v := (nI (i + 1))) (lv' := [(5, .int (nI (i + 1))), (4, .int (nI (cntB (fun to => !decide (to = aa) && (if fr = true then RS S ak aa to else RS S ak to aa)) (i + 1)))), (0, .ref mo), (1, .int (nI aa)), (2, .int (nI ak)), (3, .int (bI fr))]) hx hb dX9_others_60 hl (k := 1) rfl (nI_1 i) (by decide) rfl (fun ls hl => ?_)
              refine lv_goto (tgt := 6) hx hb dX9_others_63 (by decide) ?_
              exact ih_6 (i + 1) (by omega) (by omega) _ _ (hP) (hD) hS _ (lv_sub hl [0, 1, 2, 3, 4, 5] rfl)
            · refine lv_iconst (v := 1) hx hb dX9_others_52 (by decide) ?_
              refine lv_goto (tgt := 57) hx hb dX9_others_53 (by decide) ?_
              refine lv_iadd hx hb dX9_others_57 ?_
              refine top_i (y := (nI (cntB (fun to => !decide (to = aa) && (if fr = true then RS S ak aa to else RS S ak to aa)) (i + 1)))) (cntI_t (by rw [decide_eq_false (fun q => c_20 (by rw [q])), if_neg (fun q => by rw [bf_c c_24] at q; cases q), bt_c c_49]; rfl)) ?_
              refine lv_istore (lv' := [(4, .int (nI (cntB (fun to => !decide (to = aa) && (if fr = true then RS S ak aa to else RS S ak to aa)) (i + 1)))), (5, .int (nI i)), (0, .ref mo), (1, .int (nI aa)), (2, .int (nI ak)), (3, .int (bI fr))]) hx hb dX9_others_58 hl (by decide) rfl (fun ls hl => ?_)
              refine lv_iinc (v := (nI (i + 1))) (lv' := [(5, .int (nI (i + 1))), (4, .int (nI (cntB (fun to => !decide (to = aa) && (if fr = true then RS S ak aa to else RS S ak to aa)) (i + 1)))), (0, .ref mo), (1, .int (nI aa)), (2, .int (nI ak)), (3, .int (bI fr))]) hx hb dX9_others_60 hl (k := 1) rfl (nI_1 i) (by decide) rfl (fun ls hl => ?_)
              refine lv_goto (tgt := 6) hx hb dX9_others_63 (by decide) ?_
              exact ih_6 (i + 1) (by omega) (by omega) _ _ (hP) (hD) hS _ (lv_sub hl [0, 1, 2, 3, 4, 5] rfl)
          · refine lv_aload_n hx hb dX9_others_27 rfl (lv_at hl 2 rfl) ?_
            refine lv_iload_n hx hb dX9_others_28 rfl (lv_at hl 3 rfl) ?_
            refine lv_iload hx hb dX9_others_29 (lv_at hl 0 rfl) ?_
            refine lv_iload_n hx hb dX9_others_31 rfl (lv_at hl 4 rfl) ?_
            refine cV_i CF hK hN hA hS (cut_of 2 [0, 1] hP hD rfl rfl rfl) (n_comesTo l D cI cZ cW cJ A (X) mo zs zv zl zk zt zg zi zw zo ze zd vn vl vh (nI (nS S)) vc vr vt vo vp va vb vd vq vm vz go S aa i ak hR haa hi2 hak) (cwV 3 hts gX9_others_X9_comesTo rfl rfl rfl (by decide +kernel) ⟨Nat.le_of_ble_eq_true rfl, Nat.le_of_ble_eq_true rfl⟩) (As := [.int (nI aa), .int (nI i), .int (nI ak)]) (rest := [.int (nI (cntB (fun to => !decide (to = aa) && (if fr = true then RS S ak aa to else RS S ak to aa)) i))]) (ci := 9) (q0 := 0) rfl rfl rfl hl.1 rfl (Nat.le_of_ble_eq_true rfl) dX9_others_32 ⟨Nat.le_of_ble_eq_true rfl, Nat.le_of_ble_eq_true rfl⟩ (fun r_32 _ H locs hq hP hD hS => ?_)
            have hq : r_32 = bI (RS S ak aa i) := hq
            subst hq
            have hP : va_P D vwCl (oX9 mo zs zv vn zl zk zt vl vh zg zi zw (nI (nS S)) zo ze vc vr vt vo (bI vm) vp va vb vd vq zd vz :: aI cI zo 10000 go :: X) H := pm_P hP 2 [0, 1] rfl
            have hD : va_D A (oX9 mo zs zv vn zl zk zt vl vh zg zi zw (nI (nS S)) zo ze vc vr vt vo (bI vm) vp va vb vd vq zd vz :: aI cI zo 10000 go :: X) := pm_D hD 2 [0, 1] rfl rfl rfl
            refine lv_if_eq (tgt := 56) hx hb dX9_others_35 (by decide) (fun c_35 => ?_) (fun c_35 => ?_)
            · refine lv_iconst (v := 0) hx hb dX9_others_56 (by decide) ?_
              refine lv_iadd hx hb dX9_others_57 ?_
              refine top_i (y := (nI (cntB (fun to => !decide (to = aa) && (if fr = true then RS S ak aa to else RS S ak to aa)) (i + 1)))) (cntI_f (by rw [decide_eq_false (fun q => c_20 (by rw [q])), if_pos (bt_c c_24), bf_c c_35]; rfl)) ?_
              refine lv_istore (lv' := [(4, .int (nI (cntB (fun to => !decide (to = aa) && (if fr = true then RS S ak aa to else RS S ak to aa)) (i + 1)))), (5, .int (nI i)), (0, .ref mo), (1, .int (nI aa)), (2, .int (nI ak)), (3, .int (bI fr))]) hx hb dX9_others_58 hl (by decide) rfl (fun ls hl => ?_)
              refine lv_iinc (v := (nI (i + 1))) (lv' := [(5, .int (nI (i + 1))), (4, .int (nI (cntB (fun to => !decide (to = aa) && (if fr = true then RS S ak aa to else RS S ak to aa)) (i + 1)))), (0, .ref mo), (1, .int (nI aa)), (2, .int (nI ak)), (3, .int (bI fr))]) hx hb dX9_others_60 hl (k := 1) rfl (nI_1 i) (by decide) rfl (fun ls hl => ?_)
              refine lv_goto (tgt := 6) hx hb dX9_others_63 (by decide) ?_
              exact ih_6 (i + 1) (by omega) (by omega) _ _ (hP) (hD) hS _ (lv_sub hl [0, 1, 2, 3, 4, 5] rfl)
            · refine lv_goto (tgt := 52) hx hb dX9_others_38 (by decide) ?_
              refine lv_iconst (v := 1) hx hb dX9_others_52 (by decide) ?_
              refine lv_goto (tgt := 57) hx hb dX9_others_53 (by decide) ?_
              refine lv_iadd hx hb dX9_others_57 ?_
              refine top_i (y := (nI (cntB (fun to => !decide (to = aa) && (if fr = true then RS S ak aa to else RS S ak to aa)) (i + 1)))) (cntI_t (by rw [decide_eq_false (fun q => c_20 (by rw [q])), if_pos (bt_c c_24), bt_c c_35]; rfl)) ?_
              refine lv_istore (lv' := [(4, .int (nI (cntB (fun to => !decide (to = aa) && (if fr = true then RS S ak aa to else RS S ak to aa)) (i + 1)))), (5, .int (nI i)), (0, .ref mo), (1, .int (nI aa)), (2, .int (nI ak)), (3, .int (bI fr))]) hx hb dX9_others_58 hl (by decide) rfl (fun ls hl => ?_)
              refine lv_iinc (v := (nI (i + 1))) (lv' := [(5, .int (nI (i + 1))), (4, .int (nI (cntB (fun to => !decide (to = aa) && (if fr = true then RS S ak aa to else RS S ak to aa)) (i + 1)))), (0, .ref mo), (1, .int (nI aa)), (2, .int (nI ak)), (3, .int (bI fr))]) hx hb dX9_others_60 hl (k := 1) rfl (nI_1 i) (by decide) rfl (fun ls hl => ?_)
              refine lv_goto (tgt := 6) hx hb dX9_others_63 (by decide) ?_
              exact ih_6 (i + 1) (by omega) (by omega) _ _ (hP) (hD) hS _ (lv_sub hl [0, 1, 2, 3, 4, 5] rfl)
  exact loop_6 _ 0 (Nat.lt_succ_self _) (Nat.zero_le _) _ _ hP hD hS _ (lv_sub hl [0, 1, 2, 3, 4, 5] rfl)
set_option maxHeartbeats 4000000 in
set_option maxRecDepth 100000 in
theorem n_ledgeTold (l : Launch) (D : va_G) (cI cZ cW cJ : ClassId) (A : Nat → Prop) (X : va_W) (mo zs zv zl zk zt zg zi zw zo ze zd : Nat) (vn vl vh vc vr vt vo vp va vb vd vq : Int32) (vm : Bool) (vz : Int64) (gg gi gw go : Nat → Int32) (S : KS) (aa kk : Nat) (hM : MapM S gg gi gw) (hR : RchM S go) (haa : aa < nS S) (hkk : kk < 6) : Met l yX9_ledgeTold wsX9_ledgeTold ({ frames := 2, cells := 0, slots := 0, locals := 48 }) (va_Pc [.ref mo, .int (nI aa), .int (nI kk)] (wd D (tyL cI cZ cW cJ) A (oX9 mo zs zv vn zl zk zt vl vh zg zi zw (nI (nS S)) zo ze vc vr vt vo (bI vm) vp va vb vd vq zd vz :: aI cI zg 200 gg :: aI cI zi 100 gi :: aI cI zw 100 gw :: aI cI zo 10000 go :: X))) (va_Qi (fun (r : Int32) (u : Unit) => r = ledgeS S aa kk) (fun (u : Unit) t => wq D A (oX9 mo zs zv vn zl zk zt vl vh zg zi zw (nI (nS S)) zo ze vc vr vt vo (bI vm) vp va vb vd vq zd vz :: aI cI zg 200 gg :: aI cI zi 100 gi :: aI cI zw 100 gw :: aI cI zo 10000 go :: X) t) A) 0 0 A := by
  refine Met.ofW (cc := cX9_ledgeTold) (maxL := 3) (ret := (some .int)) (by decide) rfl ?_
  intro p e s m args below meth c s₁ B hml hv
  obtain ⟨rfl, hsz9, hP, hK, hD, hN⟩ := hv
  have hx := B.exec
  have hb := B.bytes
  have hr := B.returns
  have hts := atoms_spec (ws := wsX9_ledgeTold) B.pre
  have hown : s.vm.findClass RX9 = some m.cls := findClass_of_methodNamed B.named
  have hlocks := B.notSynchronized
  have CF : CallFix p m c cX9_ledgeTold 3 s _ wsX9_ledgeTold RX9 := ⟨hx, hb, hml, hown, hts⟩
  have hA : ∀ q : Nat, s.heap.size ≤ q → A q := hsz9
  have hS : va_S A s.heap s.heap [] := va_S.rf
  have hiX9 : ∀ w ∈ u_ws RX9 TX9 26, w ∈ wsX9_ledgeTold := fun _ h => List.mem_cons_of_mem _ (List.mem_append_right _ (h))
  have hl := lv_entry ([.ref mo, .int (nI aa), .int (nI kk)]) (n := 3) (Nat.le_of_ble_eq_true rfl)
  rw [lg_entry_eq]
  generalize (lg_sl ([.ref mo, .int (nI aa), .int (nI kk)]) ++ List.replicate (3 - (lg_sl ([.ref mo, .int (nI aa), .int (nI kk)])).length) Slot.unset).toArray = ls at hl ⊢
  have hl : lv_has ls 3 [(0, .ref mo), (1, .int (nI aa)), (2, .int (nI kk))] := hl
  show W p l e ({ frames := 2, cells := 0, slots := 0, locals := 48 } : Room) s m (([.ref mo, .int (nI aa), .int (nI kk)] : List Value).toArray) below meth c s.heap [] 0 0 (MQ below (va_Qi (fun (r : Int32) (u : Unit) => r = ledgeS S aa kk) (fun (u : Unit) t => wq D A (oX9 mo zs zv vn zl zk zt vl vh zg zi zw (nI (nS S)) zo ze vc vr vt vo (bI vm) vp va vb vd vq zd vz :: aI cI zg 200 gg :: aI cI zi 100 gi :: aI cI zw 100 gw :: aI cI zo 10000 go :: X) t) A) (([.ref mo, .int (nI aa), .int (nI kk)] : List Value).toArray) s 0 0 A) (F0 m 0 ls [])
  have hn9 : nS S ≤ 100 := nL_le _
  refine lv_iload_n hx hb dX9_ledgeTold_0 rfl (lv_at hl 2 rfl) ?_
  rcases (show kk = 0 ∨ kk = 1 ∨ kk = 2 ∨ kk = 3 ∨ kk = 4 ∨ kk = 5 by omega) with rfl | rfl | rfl | rfl | rfl | rfl
  · refine lv_tableIn (tgt := 36) hx hb dX9_ledgeTold_1 (by decide) (by decide) rfl (by decide) ?_
    refine lv_aload_n hx hb dX9_ledgeTold_36 rfl (lv_at hl 0 rfl) ?_
    refine va_get (D := D) (ci := 9) (v := .ref zi) (C := RX9) (T := TX9) (N := 26) hx hb hts hiX9 hown hK hP 0 rfl rfl 9 (by decide) (hts (.fieldLink RX9 29 "LedgeLeapsModel" "first" "[I") (List.mem_of_getElem? (i := 1) rfl)) (fun _ h9 => h9) rfl dX9_ledgeTold_37 ?_
    refine lv_iload_n hx hb dX9_ledgeTold_40 rfl (lv_at hl 1 rfl) ?_
    refine va_iald hx hb hK hP 2 0 rfl rfl (vp_ix (e := aa) (rfl) (by omega) (by decide)) dX9_ledgeTold_41 ?_
    refine top_i (y := (gi aa)) (ld_ix (f := gi) (x := (nI aa)) (e := aa) (n := 100) (rfl) (by omega) (by decide)) ?_
    refine lv_bipush (v := 20) hx hb dX9_ledgeTold_42 (by decide) ?_
    refine lv_idiv hx hb dX9_ledgeTold_44 (by decide) ?_
    refine top_i (y := (rowM (Bk S.1) aa)) (row_M hM haa) ?_
    exact W.iret (v := (rowM (Bk S.1) aa)) hx hb hr (fun t9 ht9 hW9 => ⟨⟨(rowM (Bk S.1) aa), (), rfl, rfl, by rw [ht9]; exact hP, hD⟩, hS.F ht9⟩) hS.2.2 dX9_ledgeTold_45
  · refine lv_tableIn (tgt := 46) hx hb dX9_ledgeTold_1 (by decide) (by decide) rfl (by decide) ?_
    refine lv_aload_n hx hb dX9_ledgeTold_46 rfl (lv_at hl 0 rfl) ?_
    refine va_get (D := D) (ci := 9) (v := .ref zi) (C := RX9) (T := TX9) (N := 26) hx hb hts hiX9 hown hK hP 0 rfl rfl 9 (by decide) (hts (.fieldLink RX9 29 "LedgeLeapsModel" "first" "[I") (List.mem_of_getElem? (i := 1) rfl)) (fun _ h9 => h9) rfl dX9_ledgeTold_47 ?_
    refine lv_iload_n hx hb dX9_ledgeTold_50 rfl (lv_at hl 1 rfl) ?_
    refine va_iald hx hb hK hP 2 0 rfl rfl (vp_ix (e := aa) (rfl) (by omega) (by decide)) dX9_ledgeTold_51 ?_
    refine top_i (y := (gi aa)) (ld_ix (f := gi) (x := (nI aa)) (e := aa) (n := 100) (rfl) (by omega) (by decide)) ?_
    refine lv_bipush (v := 20) hx hb dX9_ledgeTold_52 (by decide) ?_
    refine lv_irem hx hb dX9_ledgeTold_54 (by decide) ?_
    refine top_i (y := (colM (Bk S.1) aa)) (col_M hM haa) ?_
    exact W.iret (v := (colM (Bk S.1) aa)) hx hb hr (fun t9 ht9 hW9 => ⟨⟨(colM (Bk S.1) aa), (), rfl, rfl, by rw [ht9]; exact hP, hD⟩, hS.F ht9⟩) hS.2.2 dX9_ledgeTold_55
  · refine lv_tableIn (tgt := 56) hx hb dX9_ledgeTold_1 (by decide) (by decide) rfl (by decide) ?_
    refine lv_aload_n hx hb dX9_ledgeTold_56 rfl (lv_at hl 0 rfl) ?_
    refine va_get (D := D) (ci := 9) (v := .ref zw) (C := RX9) (T := TX9) (N := 26) hx hb hts hiX9 hown hK hP 0 rfl rfl 10 (by decide) (hts (.fieldLink RX9 32 "LedgeLeapsModel" "wide" "[I") (List.mem_of_getElem? (i := 2) rfl)) (fun _ h9 => h9) rfl dX9_ledgeTold_57 ?_
    refine lv_iload_n hx hb dX9_ledgeTold_60 rfl (lv_at hl 1 rfl) ?_
    refine va_iald hx hb hK hP 3 0 rfl rfl (vp_ix (e := aa) (rfl) (by omega) (by decide)) dX9_ledgeTold_61 ?_
    refine top_i (y := (gw aa)) (ld_ix (f := gw) (x := (nI aa)) (e := aa) (n := 100) (rfl) (by omega) (by decide)) ?_
    refine top_i (y := (lenM (Bk S.1) aa)) ((hM.2 aa haa).2) ?_
    exact W.iret (v := (lenM (Bk S.1) aa)) hx hb hr (fun t9 ht9 hW9 => ⟨⟨(lenM (Bk S.1) aa), (), rfl, rfl, by rw [ht9]; exact hP, hD⟩, hS.F ht9⟩) hS.2.2 dX9_ledgeTold_62
  · refine lv_tableIn (tgt := 63) hx hb dX9_ledgeTold_1 (by decide) (by decide) rfl (by decide) ?_
    refine lv_aload_n hx hb dX9_ledgeTold_63 rfl (lv_at hl 0 rfl) ?_
    refine lv_iload_n hx hb dX9_ledgeTold_64 rfl (lv_at hl 1 rfl) ?_
    refine lv_iconst (v := 3) hx hb dX9_ledgeTold_65 (by decide) ?_
    refine lv_iconst (v := 1) hx hb dX9_ledgeTold_66 (by decide) ?_
    refine cV_i CF hK hN hA hS (cut_of 5 [0, 4, 1, 2, 3] hP hD rfl rfl rfl) (n_others l D cI cZ cW cJ A (aI cI zg 200 gg :: aI cI zi 100 gi :: aI cI zw 100 gw :: X) mo zs zv zl zk zt zg zi zw zo ze zd vn vl vh vc vr vt vo vp va vb vd vq vm vz go S aa 3 true hR haa (by decide)) (cwV 3 hts gX9_ledgeTold_X9_others rfl rfl rfl (by decide +kernel) ⟨Nat.le_of_ble_eq_true rfl, Nat.le_of_ble_eq_true rfl⟩) (As := [.int (nI aa), .int 3, .int 1]) (rest := []) (ci := 9) (q0 := 0) rfl rfl rfl hl.1 rfl (Nat.le_of_ble_eq_true rfl) dX9_ledgeTold_67 ⟨Nat.le_of_ble_eq_true rfl, Nat.le_of_ble_eq_true rfl⟩ (fun r_67 _ H locs hq hP hD hS => ?_)
    have hq : r_67 = nI (cntB (fun to => !decide (to = aa) && (if true = true then RS S 3 aa to else RS S 3 to aa)) (nS S)) := hq
    subst hq
    have hP : va_P D vwCl (oX9 mo zs zv vn zl zk zt vl vh zg zi zw (nI (nS S)) zo ze vc vr vt vo (bI vm) vp va vb vd vq zd vz :: aI cI zg 200 gg :: aI cI zi 100 gi :: aI cI zw 100 gw :: aI cI zo 10000 go :: X) H := pm_P hP 5 [0, 2, 3, 4, 1] rfl
    have hD : va_D A (oX9 mo zs zv vn zl zk zt vl vh zg zi zw (nI (nS S)) zo ze vc vr vt vo (bI vm) vp va vb vd vq zd vz :: aI cI zg 200 gg :: aI cI zi 100 gi :: aI cI zw 100 gw :: aI cI zo 10000 go :: X) := pm_D hD 5 [0, 2, 3, 4, 1] rfl rfl rfl
    exact W.iret (v := (nI (cntB (fun to => !decide (to = aa) && (if true = true then RS S 3 aa to else RS S 3 to aa)) (nS S)))) hx hb hr (fun t9 ht9 hW9 => ⟨⟨(nI (cntB (fun to => !decide (to = aa) && (if true = true then RS S 3 aa to else RS S 3 to aa)) (nS S))), (), rfl, rfl, by rw [ht9]; exact hP, hD⟩, hS.F ht9⟩) hS.2.2 dX9_ledgeTold_70
  · refine lv_tableIn (tgt := 71) hx hb dX9_ledgeTold_1 (by decide) (by decide) rfl (by decide) ?_
    refine lv_aload_n hx hb dX9_ledgeTold_71 rfl (lv_at hl 0 rfl) ?_
    refine lv_iload_n hx hb dX9_ledgeTold_72 rfl (lv_at hl 1 rfl) ?_
    refine lv_iconst (v := 0) hx hb dX9_ledgeTold_73 (by decide) ?_
    refine lv_iconst (v := 1) hx hb dX9_ledgeTold_74 (by decide) ?_
    refine cV_i CF hK hN hA hS (cut_of 5 [0, 4, 1, 2, 3] hP hD rfl rfl rfl) (n_others l D cI cZ cW cJ A (aI cI zg 200 gg :: aI cI zi 100 gi :: aI cI zw 100 gw :: X) mo zs zv zl zk zt zg zi zw zo ze zd vn vl vh vc vr vt vo vp va vb vd vq vm vz go S aa 0 true hR haa (by decide)) (cwV 3 hts gX9_ledgeTold_X9_others rfl rfl rfl (by decide +kernel) ⟨Nat.le_of_ble_eq_true rfl, Nat.le_of_ble_eq_true rfl⟩) (As := [.int (nI aa), .int 0, .int 1]) (rest := []) (ci := 9) (q0 := 0) rfl rfl rfl hl.1 rfl (Nat.le_of_ble_eq_true rfl) dX9_ledgeTold_75 ⟨Nat.le_of_ble_eq_true rfl, Nat.le_of_ble_eq_true rfl⟩ (fun r_75 _ H locs hq hP hD hS => ?_)
    have hq : r_75 = nI (cntB (fun to => !decide (to = aa) && (if true = true then RS S 0 aa to else RS S 0 to aa)) (nS S)) := hq
    subst hq
    have hP : va_P D vwCl (oX9 mo zs zv vn zl zk zt vl vh zg zi zw (nI (nS S)) zo ze vc vr vt vo (bI vm) vp va vb vd vq zd vz :: aI cI zg 200 gg :: aI cI zi 100 gi :: aI cI zw 100 gw :: aI cI zo 10000 go :: X) H := pm_P hP 5 [0, 2, 3, 4, 1] rfl
    have hD : va_D A (oX9 mo zs zv vn zl zk zt vl vh zg zi zw (nI (nS S)) zo ze vc vr vt vo (bI vm) vp va vb vd vq zd vz :: aI cI zg 200 gg :: aI cI zi 100 gi :: aI cI zw 100 gw :: aI cI zo 10000 go :: X) := pm_D hD 5 [0, 2, 3, 4, 1] rfl rfl rfl
    exact W.iret (v := (nI (cntB (fun to => !decide (to = aa) && (if true = true then RS S 0 aa to else RS S 0 to aa)) (nS S)))) hx hb hr (fun t9 ht9 hW9 => ⟨⟨(nI (cntB (fun to => !decide (to = aa) && (if true = true then RS S 0 aa to else RS S 0 to aa)) (nS S))), (), rfl, rfl, by rw [ht9]; exact hP, hD⟩, hS.F ht9⟩) hS.2.2 dX9_ledgeTold_78
  · refine lv_tableOut (tgt := 79) hx hb dX9_ledgeTold_1 (by decide) (by decide) ?_
    refine lv_aload_n hx hb dX9_ledgeTold_79 rfl (lv_at hl 0 rfl) ?_
    refine lv_iload_n hx hb dX9_ledgeTold_80 rfl (lv_at hl 1 rfl) ?_
    refine lv_iconst (v := 3) hx hb dX9_ledgeTold_81 (by decide) ?_
    refine lv_iconst (v := 0) hx hb dX9_ledgeTold_82 (by decide) ?_
    refine cV_i CF hK hN hA hS (cut_of 5 [0, 4, 1, 2, 3] hP hD rfl rfl rfl) (n_others l D cI cZ cW cJ A (aI cI zg 200 gg :: aI cI zi 100 gi :: aI cI zw 100 gw :: X) mo zs zv zl zk zt zg zi zw zo ze zd vn vl vh vc vr vt vo vp va vb vd vq vm vz go S aa 3 false hR haa (by decide)) (cwV 3 hts gX9_ledgeTold_X9_others rfl rfl rfl (by decide +kernel) ⟨Nat.le_of_ble_eq_true rfl, Nat.le_of_ble_eq_true rfl⟩) (As := [.int (nI aa), .int 3, .int 0]) (rest := []) (ci := 9) (q0 := 0) rfl rfl rfl hl.1 rfl (Nat.le_of_ble_eq_true rfl) dX9_ledgeTold_83 ⟨Nat.le_of_ble_eq_true rfl, Nat.le_of_ble_eq_true rfl⟩ (fun r_83 _ H locs hq hP hD hS => ?_)
    have hq : r_83 = nI (cntB (fun to => !decide (to = aa) && (if false = true then RS S 3 aa to else RS S 3 to aa)) (nS S)) := hq
    subst hq
    have hP : va_P D vwCl (oX9 mo zs zv vn zl zk zt vl vh zg zi zw (nI (nS S)) zo ze vc vr vt vo (bI vm) vp va vb vd vq zd vz :: aI cI zg 200 gg :: aI cI zi 100 gi :: aI cI zw 100 gw :: aI cI zo 10000 go :: X) H := pm_P hP 5 [0, 2, 3, 4, 1] rfl
    have hD : va_D A (oX9 mo zs zv vn zl zk zt vl vh zg zi zw (nI (nS S)) zo ze vc vr vt vo (bI vm) vp va vb vd vq zd vz :: aI cI zg 200 gg :: aI cI zi 100 gi :: aI cI zw 100 gw :: aI cI zo 10000 go :: X) := pm_D hD 5 [0, 2, 3, 4, 1] rfl rfl rfl
    exact W.iret (v := (nI (cntB (fun to => !decide (to = aa) && (if false = true then RS S 3 aa to else RS S 3 to aa)) (nS S)))) hx hb hr (fun t9 ht9 hW9 => ⟨⟨(nI (cntB (fun to => !decide (to = aa) && (if false = true then RS S 3 aa to else RS S 3 to aa)) (nS S))), (), rfl, rfl, by rw [ht9]; exact hP, hD⟩, hS.F ht9⟩) hS.2.2 dX9_ledgeTold_86
set_option maxHeartbeats 4000000 in
set_option maxRecDepth 100000 in
theorem n_cellTold (l : Launch) (D : va_G) (cI cZ cW cJ : ClassId) (A : Nat → Prop) (X : va_W) (mo zs zv zl zk zt zg zi zw zo ze zd : Nat) (vn vl vh vg vc vr vt vo vp va vb vd vq : Int32) (vm : Bool) (vz : Int64) (gs gg : Nat → Int32) (S : KS) (ac ar kk : Nat) (hS0 : AbsM S gs) (hG : ∀ i, i < 200 → gg i = lgF (SB (Bk S.1)) i) (hac : ac < 20) (har : ar < 10) (hkk : kk < 5) : Met l yX9_cellTold wsX9_cellTold ({ frames := 5, cells := 0, slots := 0, locals := 111 }) (va_Pc [.ref mo, .int (nI ac), .int (nI ar), .int (nI kk)] (wd D (tyL cI cZ cW cJ) A (oX9 mo zs zv vn zl zk zt vl vh zg zi zw vg zo ze vc vr vt vo (bI vm) vp va vb vd vq zd vz :: aI cI zs 28 gs :: aI cI zg 200 gg :: X))) (va_Qi (fun (r : Int32) (u : Unit) => r = cellS S ac ar kk) (fun (u : Unit) t => wq D A (oX9 mo zs zv vn zl zk zt vl vh zg zi zw vg zo ze vc vr vt vo (bI vm) vp va vb vd vq zd vz :: aI cI zs 28 gs :: aI cI zg 200 gg :: X) t) A) 0 0 A := by
  refine Met.ofW (cc := cX9_cellTold) (maxL := 4) (ret := (some .int)) (by decide) rfl ?_
  intro p e s m args below meth c s₁ B hml hv
  obtain ⟨rfl, hsz9, hP, hK, hD, hN⟩ := hv
  have hx := B.exec
  have hb := B.bytes
  have hr := B.returns
  have hts := atoms_spec (ws := wsX9_cellTold) B.pre
  have hown : s.vm.findClass RX9 = some m.cls := findClass_of_methodNamed B.named
  have hlocks := B.notSynchronized
  have CF : CallFix p m c cX9_cellTold 4 s _ wsX9_cellTold RX9 := ⟨hx, hb, hml, hown, hts⟩
  have hA : ∀ q : Nat, s.heap.size ≤ q → A q := hsz9
  have hS : va_S A s.heap s.heap [] := va_S.rf
  have hl := lv_entry ([.ref mo, .int (nI ac), .int (nI ar), .int (nI kk)]) (n := 4) (Nat.le_of_ble_eq_true rfl)
  rw [lg_entry_eq]
  generalize (lg_sl ([.ref mo, .int (nI ac), .int (nI ar), .int (nI kk)]) ++ List.replicate (4 - (lg_sl ([.ref mo, .int (nI ac), .int (nI ar), .int (nI kk)])).length) Slot.unset).toArray = ls at hl ⊢
  have hl : lv_has ls 4 [(0, .ref mo), (1, .int (nI ac)), (2, .int (nI ar)), (3, .int (nI kk))] := hl
  show W p l e ({ frames := 5, cells := 0, slots := 0, locals := 111 } : Room) s m (([.ref mo, .int (nI ac), .int (nI ar), .int (nI kk)] : List Value).toArray) below meth c s.heap [] 0 0 (MQ below (va_Qi (fun (r : Int32) (u : Unit) => r = cellS S ac ar kk) (fun (u : Unit) t => wq D A (oX9 mo zs zv vn zl zk zt vl vh zg zi zw vg zo ze vc vr vt vo (bI vm) vp va vb vd vq zd vz :: aI cI zs 28 gs :: aI cI zg 200 gg :: X) t) A) (([.ref mo, .int (nI ac), .int (nI ar), .int (nI kk)] : List Value).toArray) s 0 0 A) (F0 m 0 ls [])
  refine lv_iload_n hx hb dX9_cellTold_0 rfl (lv_at hl 3 rfl) ?_
  rcases (show kk = 0 ∨ kk = 1 ∨ kk = 2 ∨ kk = 3 ∨ kk = 4 by omega) with rfl | rfl | rfl | rfl | rfl
  · refine lv_tableIn (tgt := 28) hx hb dX9_cellTold_1 (by decide) (by decide) rfl (by decide) ?_
    refine lv_aload_n hx hb dX9_cellTold_28 rfl (lv_at hl 0 rfl) ?_
    refine lv_iload_n hx hb dX9_cellTold_29 rfl (lv_at hl 1 rfl) ?_
    refine lv_iload_n hx hb dX9_cellTold_30 rfl (lv_at hl 2 rfl) ?_
    refine cV_i CF hK hN hA hS (cut_of 3 [0, 1, 2] hP hD rfl rfl rfl) (n_isBlock l D cI cZ cW cJ A (aI cI zg 200 gg :: X) mo zs zv zl zk zt zg zi zw zo ze zd vn vl vh vg vc vr vt vo vp va vb vd vq vm vz gs S (nI ac) (nI ar) hS0) (cwV 2 hts gX9_cellTold_X9_isBlock rfl rfl rfl (by decide +kernel) ⟨Nat.le_of_ble_eq_true rfl, Nat.le_of_ble_eq_true rfl⟩) (As := [.int (nI ac), .int (nI ar)]) (rest := []) (ci := 9) (q0 := 0) rfl rfl rfl hl.1 rfl (Nat.le_of_ble_eq_true rfl) dX9_cellTold_31 ⟨Nat.le_of_ble_eq_true rfl, Nat.le_of_ble_eq_true rfl⟩ (fun r_31 _ H locs hq hP hD hS => ?_)
    have hq : r_31 = bI (Bk S.1 (nI ac) (nI ar)) := hq
    subst hq
    have hP : va_P D vwCl (oX9 mo zs zv vn zl zk zt vl vh zg zi zw vg zo ze vc vr vt vo (bI vm) vp va vb vd vq zd vz :: aI cI zs 28 gs :: aI cI zg 200 gg :: X) H := pm_P hP 3 [0, 1, 2] rfl
    have hD : va_D A (oX9 mo zs zv vn zl zk zt vl vh zg zi zw vg zo ze vc vr vt vo (bI vm) vp va vb vd vq zd vz :: aI cI zs 28 gs :: aI cI zg 200 gg :: X) := pm_D hD 3 [0, 1, 2] rfl rfl rfl
    refine lv_if_eq (tgt := 41) hx hb dX9_cellTold_34 (by decide) (fun c_34 => ?_) (fun c_34 => ?_)
    · refine lv_iconst (v := 0) hx hb dX9_cellTold_41 (by decide) ?_
      exact W.iret (v := 0) hx hb hr (fun t9 ht9 hW9 => ⟨⟨0, (), rfl, by show _ = bI _; rw [bf_c c_34]; rfl, by rw [ht9]; exact hP, hD⟩, hS.F ht9⟩) hS.2.2 dX9_cellTold_42
    · refine lv_iconst (v := 1) hx hb dX9_cellTold_37 (by decide) ?_
      refine lv_goto (tgt := 42) hx hb dX9_cellTold_38 (by decide) ?_
      exact W.iret (v := 1) hx hb hr (fun t9 ht9 hW9 => ⟨⟨1, (), rfl, by show _ = bI _; rw [bt_c c_34]; rfl, by rw [ht9]; exact hP, hD⟩, hS.F ht9⟩) hS.2.2 dX9_cellTold_42
  · refine lv_tableIn (tgt := 43) hx hb dX9_cellTold_1 (by decide) (by decide) rfl (by decide) ?_
    refine lv_aload_n hx hb dX9_cellTold_43 rfl (lv_at hl 0 rfl) ?_
    refine lv_iload_n hx hb dX9_cellTold_44 rfl (lv_at hl 1 rfl) ?_
    refine lv_iload_n hx hb dX9_cellTold_45 rfl (lv_at hl 2 rfl) ?_
    refine cV_i CF hK hN hA hS (cut_of 3 [0, 1, 2] hP hD rfl rfl rfl) (n_canStand l D cI cZ cW cJ A (aI cI zg 200 gg :: X) mo zs zv zl zk zt zg zi zw zo ze zd vn vl vh vg vc vr vt vo vp va vb vd vq vm vz gs S (nI ac) (nI ar) hS0) (cwV 2 hts gX9_cellTold_X9_canStand rfl rfl rfl (by decide +kernel) ⟨Nat.le_of_ble_eq_true rfl, Nat.le_of_ble_eq_true rfl⟩) (As := [.int (nI ac), .int (nI ar)]) (rest := []) (ci := 9) (q0 := 0) rfl rfl rfl hl.1 rfl (Nat.le_of_ble_eq_true rfl) dX9_cellTold_46 ⟨Nat.le_of_ble_eq_true rfl, Nat.le_of_ble_eq_true rfl⟩ (fun r_46 _ H locs hq hP hD hS => ?_)
    have hq : r_46 = bI (stB (Bk S.1) (nI ac) (nI ar)) := hq
    subst hq
    have hP : va_P D vwCl (oX9 mo zs zv vn zl zk zt vl vh zg zi zw vg zo ze vc vr vt vo (bI vm) vp va vb vd vq zd vz :: aI cI zs 28 gs :: aI cI zg 200 gg :: X) H := pm_P hP 3 [0, 1, 2] rfl
    have hD : va_D A (oX9 mo zs zv vn zl zk zt vl vh zg zi zw vg zo ze vc vr vt vo (bI vm) vp va vb vd vq zd vz :: aI cI zs 28 gs :: aI cI zg 200 gg :: X) := pm_D hD 3 [0, 1, 2] rfl rfl rfl
    refine lv_if_eq (tgt := 56) hx hb dX9_cellTold_49 (by decide) (fun c_49 => ?_) (fun c_49 => ?_)
    · refine lv_iconst (v := 0) hx hb dX9_cellTold_56 (by decide) ?_
      exact W.iret (v := 0) hx hb hr (fun t9 ht9 hW9 => ⟨⟨0, (), rfl, by show _ = bI _; rw [bf_c c_49]; rfl, by rw [ht9]; exact hP, hD⟩, hS.F ht9⟩) hS.2.2 dX9_cellTold_57
    · refine lv_iconst (v := 1) hx hb dX9_cellTold_52 (by decide) ?_
      refine lv_goto (tgt := 57) hx hb dX9_cellTold_53 (by decide) ?_
      exact W.iret (v := 1) hx hb hr (fun t9 ht9 hW9 => ⟨⟨1, (), rfl, by show _ = bI _; rw [bt_c c_49]; rfl, by rw [ht9]; exact hP, hD⟩, hS.F ht9⟩) hS.2.2 dX9_cellTold_57
  · refine lv_tableIn (tgt := 58) hx hb dX9_cellTold_1 (by decide) (by decide) rfl (by decide) ?_
    refine lv_aload_n hx hb dX9_cellTold_58 rfl (lv_at hl 0 rfl) ?_
    refine lv_iload_n hx hb dX9_cellTold_59 rfl (lv_at hl 1 rfl) ?_
    refine lv_iload_n hx hb dX9_cellTold_60 rfl (lv_at hl 2 rfl) ?_
    refine cV_i CF hK hN hA hS (cut_of 3 [0, 2, 1] hP hD rfl rfl rfl) (n_ledgeAt l D cI cZ cW cJ A (aI cI zs 28 gs :: X) mo zs zv zl zk zt zg zi zw zo ze zd vn vl vh vg vc vr vt vo vp va vb vd vq vm vz gg ac ar hac har) (cwV 2 hts gX9_cellTold_X9_ledgeAt rfl rfl rfl (by decide +kernel) ⟨Nat.le_of_ble_eq_true rfl, Nat.le_of_ble_eq_true rfl⟩) (As := [.int (nI ac), .int (nI ar)]) (rest := []) (ci := 9) (q0 := 0) rfl rfl rfl hl.1 rfl (Nat.le_of_ble_eq_true rfl) dX9_cellTold_61 ⟨Nat.le_of_ble_eq_true rfl, Nat.le_of_ble_eq_true rfl⟩ (fun r_61 _ H locs hq hP hD hS => ?_)
    have hq : r_61 = gg (20 * ar + ac) := hq
    subst hq
    have hP : va_P D vwCl (oX9 mo zs zv vn zl zk zt vl vh zg zi zw vg zo ze vc vr vt vo (bI vm) vp va vb vd vq zd vz :: aI cI zs 28 gs :: aI cI zg 200 gg :: X) H := pm_P hP 3 [0, 2, 1] rfl
    have hD : va_D A (oX9 mo zs zv vn zl zk zt vl vh zg zi zw vg zo ze vc vr vt vo (bI vm) vp va vb vd vq zd vz :: aI cI zs 28 gs :: aI cI zg 200 gg :: X) := pm_D hD 3 [0, 2, 1] rfl rfl rfl
    refine top_i (y := (lgF (SB (Bk S.1)) (20 * ar + ac))) (hG _ (by omega)) ?_
    exact W.iret (v := (lgF (SB (Bk S.1)) (20 * ar + ac))) hx hb hr (fun t9 ht9 hW9 => ⟨⟨(lgF (SB (Bk S.1)) (20 * ar + ac)), (), rfl, rfl, by rw [ht9]; exact hP, hD⟩, hS.F ht9⟩) hS.2.2 dX9_cellTold_64
  · refine lv_tableOut (tgt := 65) hx hb dX9_cellTold_1 (by decide) (by decide) ?_
    refine lv_aload_n hx hb dX9_cellTold_65 rfl (lv_at hl 0 rfl) ?_
    refine lv_iload_n hx hb dX9_cellTold_66 rfl (lv_at hl 1 rfl) ?_
    refine lv_iload_n hx hb dX9_cellTold_67 rfl (lv_at hl 2 rfl) ?_
    refine lv_iload_n hx hb dX9_cellTold_68 rfl (lv_at hl 3 rfl) ?_
    refine lv_iconst (v := 3) hx hb dX9_cellTold_69 (by decide) ?_
    have c_70 : ((nI 3) : Int32) = 3 := by decide
    refine lv_icmp_ne (tgt := 77) hx hb dX9_cellTold_70 (by decide) (fun q => absurd c_70 q) (fun _ => ?_)
    refine lv_iconst (v := 1) hx hb dX9_cellTold_73 (by decide) ?_
    refine lv_goto (tgt := 78) hx hb dX9_cellTold_74 (by decide) ?_
    refine cV_i CF hK hN hA hS (cut_of 3 [0, 1, 2] hP hD rfl rfl rfl) (n_greatestRun l D cI cZ cW cJ A (aI cI zg 200 gg :: X) mo zs zv zl zk zt zg zi zw zo ze zd vn vl vh vg vc vr vt vo vp va vb vd vq vm vz gs S (nI ac) (nI ar) 1 hS0) (cwV 3 hts gX9_cellTold_X9_greatestRun rfl rfl rfl (by decide +kernel) ⟨Nat.le_of_ble_eq_true rfl, Nat.le_of_ble_eq_true rfl⟩) (As := [.int (nI ac), .int (nI ar), .int 1]) (rest := []) (ci := 9) (q0 := 0) rfl rfl rfl hl.1 rfl (Nat.le_of_ble_eq_true rfl) dX9_cellTold_78 ⟨Nat.le_of_ble_eq_true rfl, Nat.le_of_ble_eq_true rfl⟩ (fun r_78 _ H locs hq hP hD hS => ?_)
    have hq : r_78 = grB (Bk S.1) (nI ac) (nI ar) 1 := hq
    subst hq
    have hP : va_P D vwCl (oX9 mo zs zv vn zl zk zt vl vh zg zi zw vg zo ze vc vr vt vo (bI vm) vp va vb vd vq zd vz :: aI cI zs 28 gs :: aI cI zg 200 gg :: X) H := pm_P hP 3 [0, 1, 2] rfl
    have hD : va_D A (oX9 mo zs zv vn zl zk zt vl vh zg zi zw vg zo ze vc vr vt vo (bI vm) vp va vb vd vq zd vz :: aI cI zs 28 gs :: aI cI zg 200 gg :: X) := pm_D hD 3 [0, 1, 2] rfl rfl rfl
    exact W.iret (v := (grB (Bk S.1) (nI ac) (nI ar) 1)) hx hb hr (fun t9 ht9 hW9 => ⟨⟨(grB (Bk S.1) (nI ac) (nI ar) 1), (), rfl, rfl, by rw [ht9]; exact hP, hD⟩, hS.F ht9⟩) hS.2.2 dX9_cellTold_81
  · refine lv_tableOut (tgt := 65) hx hb dX9_cellTold_1 (by decide) (by decide) ?_
    refine lv_aload_n hx hb dX9_cellTold_65 rfl (lv_at hl 0 rfl) ?_
    refine lv_iload_n hx hb dX9_cellTold_66 rfl (lv_at hl 1 rfl) ?_
    refine lv_iload_n hx hb dX9_cellTold_67 rfl (lv_at hl 2 rfl) ?_
    refine lv_iload_n hx hb dX9_cellTold_68 rfl (lv_at hl 3 rfl) ?_
    refine lv_iconst (v := 3) hx hb dX9_cellTold_69 (by decide) ?_
    have c_70 : ¬ ((nI 4) : Int32) = 3 := by decide
    refine lv_icmp_ne (tgt := 77) hx hb dX9_cellTold_70 (by decide) (fun _ => ?_) (fun q => absurd q c_70)
    refine lv_iconst (v := (-1)) hx hb dX9_cellTold_77 (by decide) ?_
    refine cV_i CF hK hN hA hS (cut_of 3 [0, 1, 2] hP hD rfl rfl rfl) (n_greatestRun l D cI cZ cW cJ A (aI cI zg 200 gg :: X) mo zs zv zl zk zt zg zi zw zo ze zd vn vl vh vg vc vr vt vo vp va vb vd vq vm vz gs S (nI ac) (nI ar) (-1) hS0) (cwV 3 hts gX9_cellTold_X9_greatestRun rfl rfl rfl (by decide +kernel) ⟨Nat.le_of_ble_eq_true rfl, Nat.le_of_ble_eq_true rfl⟩) (As := [.int (nI ac), .int (nI ar), .int (-1)]) (rest := []) (ci := 9) (q0 := 0) rfl rfl rfl hl.1 rfl (Nat.le_of_ble_eq_true rfl) dX9_cellTold_78 ⟨Nat.le_of_ble_eq_true rfl, Nat.le_of_ble_eq_true rfl⟩ (fun r_78 _ H locs hq hP hD hS => ?_)
    have hq : r_78 = grB (Bk S.1) (nI ac) (nI ar) (-1) := hq
    subst hq
    have hP : va_P D vwCl (oX9 mo zs zv vn zl zk zt vl vh zg zi zw vg zo ze vc vr vt vo (bI vm) vp va vb vd vq zd vz :: aI cI zs 28 gs :: aI cI zg 200 gg :: X) H := pm_P hP 3 [0, 1, 2] rfl
    have hD : va_D A (oX9 mo zs zv vn zl zk zt vl vh zg zi zw vg zo ze vc vr vt vo (bI vm) vp va vb vd vq zd vz :: aI cI zs 28 gs :: aI cI zg 200 gg :: X) := pm_D hD 3 [0, 1, 2] rfl rfl rfl
    exact W.iret (v := (grB (Bk S.1) (nI ac) (nI ar) (-1))) hx hb hr (fun t9 ht9 hW9 => ⟨⟨(grB (Bk S.1) (nI ac) (nI ar) (-1)), (), rfl, rfl, by rw [ht9]; exact hP, hD⟩, hS.F ht9⟩) hS.2.2 dX9_cellTold_81
set_option maxHeartbeats 4000000 in
set_option maxRecDepth 100000 in
theorem n_blocks (l : Launch) (D : va_G) (cI cZ cW cJ : ClassId) (A : Nat → Prop) (X : va_W) (mo zs zv zl zk zt zg zi zw zo ze zd : Nat) (vn vl vh vg vc vr vt vo vp va vb vd vq : Int32) (vm : Bool) (vz : Int64) (gs : Nat → Int32) (S : KS) (hS0 : AbsM S gs) : Met l yX9_blocks wsX9_blocks ({ frames := 0, cells := 0, slots := 0, locals := 0 }) (va_Pc [.ref mo] (wd D (tyL cI cZ cW cJ) A (oX9 mo zs zv vn zl zk zt vl vh zg zi zw vg zo ze vc vr vt vo (bI vm) vp va vb vd vq zd vz :: aI cI zs 28 gs :: X))) (va_Qi (fun (r : Int32) (u : Unit) => r = nI (blkN S.1)) (fun (u : Unit) t => wq D A (oX9 mo zs zv vn zl zk zt vl vh zg zi zw vg zo ze vc vr vt vo (bI vm) vp va vb vd vq zd vz :: aI cI zs 28 gs :: X) t) A) 0 0 A := by
  refine Met.ofW (cc := cX9_blocks) (maxL := 4) (ret := (some .int)) (by decide) rfl ?_
  intro p e s m args below meth c s₁ B hml hv
  obtain ⟨rfl, hsz9, hP, hK, hD, hN⟩ := hv
  have hx := B.exec
  have hb := B.bytes
  have hr := B.returns
  have hts := atoms_spec (ws := wsX9_blocks) B.pre
  have hown : s.vm.findClass RX9 = some m.cls := findClass_of_methodNamed B.named
  have hlocks := B.notSynchronized
  have CF : CallFix p m c cX9_blocks 4 s _ wsX9_blocks RX9 := ⟨hx, hb, hml, hown, hts⟩
  have hA : ∀ q : Nat, s.heap.size ≤ q → A q := hsz9
  have hS : va_S A s.heap s.heap [] := va_S.rf
  have hiX9 : ∀ w ∈ u_ws RX9 TX9 26, w ∈ wsX9_blocks := fun _ h => List.mem_cons_of_mem _ (List.mem_append_right _ (h))
  have hl := lv_entry ([.ref mo]) (n := 4) (Nat.le_of_ble_eq_true rfl)
  rw [lg_entry_eq]
  generalize (lg_sl ([.ref mo]) ++ List.replicate (4 - (lg_sl ([.ref mo])).length) Slot.unset).toArray = ls at hl ⊢
  have hl : lv_has ls 4 [(0, .ref mo)] := hl
  show W p l e ({ frames := 0, cells := 0, slots := 0, locals := 0 } : Room) s m (([.ref mo] : List Value).toArray) below meth c s.heap [] 0 0 (MQ below (va_Qi (fun (r : Int32) (u : Unit) => r = nI (blkN S.1)) (fun (u : Unit) t => wq D A (oX9 mo zs zv vn zl zk zt vl vh zg zi zw vg zo ze vc vr vt vo (bI vm) vp va vb vd vq zd vz :: aI cI zs 28 gs :: X) t) A) (([.ref mo] : List Value).toArray) s 0 0 A) (F0 m 0 ls [])
  refine lv_iconst (v := 0) hx hb dX9_blocks_0 (by decide) ?_
  refine lv_istore_n (lv' := [(1, .int 0), (0, .ref mo)]) hx hb dX9_blocks_1 rfl hl (by decide) rfl (fun ls hl => ?_)
  refine lv_iconst (v := 0) hx hb dX9_blocks_2 (by decide) ?_
  refine lv_istore_n (lv' := [(2, .int 0), (1, .int 0), (0, .ref mo)]) hx hb dX9_blocks_3 rfl hl (by decide) rfl (fun ls hl => ?_)
  have loop_4 : ∀ (nfu : Nat) (c9 : Nat) (hn_4 : 20 - c9 < nfu) (hc9 : c9 ≤ 20) (H : Heap) (locs : List Loc) (hP : va_P D vwCl (oX9 mo zs zv vn zl zk zt vl vh zg zi zw vg zo ze vc vr vt vo (bI vm) vp va vb vd vq zd vz :: aI cI zs 28 gs :: X) H) (hD : va_D A (oX9 mo zs zv vn zl zk zt vl vh zg zi zw vg zo ze vc vr vt vo (bI vm) vp va vb vd vq zd vz :: aI cI zs 28 gs :: X)) (hS : va_S A s.heap H locs) (ls : Array Slot) (hl : lv_has ls 4 [(2, .int (nI c9)), (1, .int (nI (colsN S.1 c9))), (0, .ref mo)]), W p l e ({ frames := 0, cells := 0, slots := 0, locals := 0 } : Room) s m (([.ref mo] : List Value).toArray) below meth c H locs 0 0 (MQ below (va_Qi (fun (r : Int32) (u : Unit) => r = nI (blkN S.1)) (fun (u : Unit) t => wq D A (oX9 mo zs zv vn zl zk zt vl vh zg zi zw vg zo ze vc vr vt vo (bI vm) vp va vb vd vq zd vz :: aI cI zs 28 gs :: X) t) A) (([.ref mo] : List Value).toArray) s 0 0 A) (F0 m 4 ls []) := by
    intro nfu
    induction nfu with
    | zero => intro c9 hn_4; exact absurd hn_4 (Nat.not_lt_zero _)
    | succ nfu ih_4 =>
      intro c9 hn_4 hc9 H locs hP hD hS ls hl
      refine lv_iload_n hx hb dX9_blocks_4 rfl (lv_at hl 0 rfl) ?_
      refine lv_bipush (v := 20) hx hb dX9_blocks_5 (by decide) ?_
      refine lv_icmp_ge (tgt := 41) hx hb dX9_blocks_7 (by decide) (fun c_7 => ?_) (fun c_7 => ?_)
      · have hc3 : c9 = 20 := by have h := le_of_ge (a := 20) (b := c9) (by decide) (by omega) c_7; omega
        refine lv_iload_n hx hb dX9_blocks_41 rfl (lv_at hl 1 rfl) ?_
        exact W.iret (v := (nI (colsN S.1 c9))) hx hb hr (fun t9 ht9 hW9 => ⟨⟨(nI (colsN S.1 c9)), (), rfl, by rw [hc3, cols_blk], by rw [ht9]; exact hP, hD⟩, hS.F ht9⟩) hS.2.2 dX9_blocks_42
      · have hc2 : c9 < 20 := lt_of_nge (a := 20) (b := c9) (by decide) (by omega) c_7
        obtain ⟨n9, hn9, he9, hb9⟩ := hS0.1 c9 hc2
        refine lv_aload_n hx hb dX9_blocks_10 rfl (lv_at hl 2 rfl) ?_
        refine va_get (D := D) (ci := 9) (v := .ref zs) (C := RX9) (T := TX9) (N := 26) hx hb hts hiX9 hown hK hP 0 rfl rfl 0 (by decide) (hts (.fieldLink RX9 7 "LedgeLeapsModel" "s" "[I") (List.mem_of_getElem? (i := 1) rfl)) (fun _ h9 => h9) rfl dX9_blocks_11 ?_
        refine lv_iconst (v := 0) hx hb dX9_blocks_14 (by decide) ?_
        refine lv_iload_n hx hb dX9_blocks_15 rfl (lv_at hl 0 rfl) ?_
        refine lv_iadd hx hb dX9_blocks_16 ?_
        refine top_i (y := (nI c9)) (z_add c9) ?_
        refine va_iald hx hb hK hP 1 0 rfl rfl (vp_ix (e := c9) (rfl) (by omega) (by decide)) dX9_blocks_17 ?_
        refine top_i (y := (gs c9)) (ld_ix (f := gs) (x := (nI c9)) (e := c9) (n := 28) (rfl) (by omega) (by decide)) ?_
        refine top_i (y := (nI n9)) he9 ?_
        refine lv_istore_n (lv' := [(3, .int (nI n9)), (2, .int (nI c9)), (1, .int (nI (colsN S.1 c9))), (0, .ref mo)]) hx hb dX9_blocks_18 rfl hl (by decide) rfl (fun ls hl => ?_)
        have loop_19 : ∀ (nfu : Nat) (y9 m9 : Nat) (hn_19 : m9 < nfu) (hm9 : m9 < 1024) (hy9 : y9 + cntB m9.testBit 10 = colsN S.1 (c9 + 1)) (H : Heap) (locs : List Loc) (hP : va_P D vwCl (oX9 mo zs zv vn zl zk zt vl vh zg zi zw vg zo ze vc vr vt vo (bI vm) vp va vb vd vq zd vz :: aI cI zs 28 gs :: X) H) (hD : va_D A (oX9 mo zs zv vn zl zk zt vl vh zg zi zw vg zo ze vc vr vt vo (bI vm) vp va vb vd vq zd vz :: aI cI zs 28 gs :: X)) (hS : va_S A s.heap H locs) (ls : Array Slot) (hl : lv_has ls 4 [(3, .int (nI m9)), (2, .int (nI c9)), (1, .int (nI y9)), (0, .ref mo)]), W p l e ({ frames := 0, cells := 0, slots := 0, locals := 0 } : Room) s m (([.ref mo] : List Value).toArray) below meth c H locs 0 0 (MQ below (va_Qi (fun (r : Int32) (u : Unit) => r = nI (blkN S.1)) (fun (u : Unit) t => wq D A (oX9 mo zs zv vn zl zk zt vl vh zg zi zw vg zo ze vc vr vt vo (bI vm) vp va vb vd vq zd vz :: aI cI zs 28 gs :: X) t) A) (([.ref mo] : List Value).toArray) s 0 0 A) (F0 m 19 ls []) := by
          intro nfu
          induction nfu with
          | zero => intro y9 m9 hn_19; exact absurd hn_19 (Nat.not_lt_zero _)
          | succ nfu ih_19 =>
            intro y9 m9 hn_19 hm9 hy9 H locs hP hD hS ls hl
            refine lv_iload_n hx hb dX9_blocks_19 rfl (lv_at hl 0 rfl) ?_
            refine lv_if_eq (tgt := 35) hx hb dX9_blocks_20 (by decide) (fun c_20 => ?_) (fun c_20 => ?_)
            · obtain rfl : m9 = 0 := nI_inj (by omega) (by decide) c_20
              rw [show cntB (Nat.testBit 0) 10 = 0 by decide] at hy9
              obtain rfl : y9 = colsN S.1 (c9 + 1) := by omega
              refine lv_iinc (v := (nI (c9 + 1))) (lv' := [(2, .int (nI (c9 + 1))), (3, .int (nI 0)), (1, .int (nI (colsN S.1 (c9 + 1)))), (0, .ref mo)]) hx hb dX9_blocks_35 hl (k := 1) rfl (nI_1 c9) (by decide) rfl (fun ls hl => ?_)
              refine lv_goto (tgt := 4) hx hb dX9_blocks_38 (by decide) ?_
              exact ih_4 (c9 + 1) (by omega) (by omega) _ _ (hP) (hD) hS _ (lv_sub hl [0, 2, 3] rfl)
            · have hmp : 0 < m9 := Nat.pos_of_ne_zero fun q => c_20 (by rw [q]; rfl)
              refine lv_iinc (v := (nI (y9 + 1))) (lv' := [(1, .int (nI (y9 + 1))), (3, .int (nI m9)), (2, .int (nI c9)), (0, .ref mo)]) hx hb dX9_blocks_23 hl (k := 2) rfl (nI_1 y9) (by decide) rfl (fun ls hl => ?_)
              refine lv_iload_n hx hb dX9_blocks_26 rfl (lv_at hl 1 rfl) ?_
              refine lv_iload_n hx hb dX9_blocks_27 rfl (lv_at hl 1 rfl) ?_
              refine lv_iconst (v := 1) hx hb dX9_blocks_28 (by decide) ?_
              refine lv_isub hx hb dX9_blocks_29 ?_
              refine lv_iand hx hb dX9_blocks_30 ?_
              refine top_i (y := (nI (dropB m9))) (drop_nI hmp) ?_
              refine lv_istore_n (lv' := [(3, .int (nI (dropB m9))), (1, .int (nI (y9 + 1))), (2, .int (nI c9)), (0, .ref mo)]) hx hb dX9_blocks_31 rfl hl (by decide) rfl (fun ls hl => ?_)
              refine lv_goto (tgt := 19) hx hb dX9_blocks_32 (by decide) ?_
              exact ih_19 (y9 + 1) (dropB m9) (by have := drop_lt hmp; omega) (by have := drop_lt hmp; omega) (by have := drop_cnt m9 hm9 hmp; omega) _ _ (hP) (hD) hS _ (lv_sub hl [0, 2, 1, 3] rfl)
        exact loop_19 _ (colsN S.1 c9) n9 (Nat.lt_succ_self _) (hn9) (by rw [colsN, cntB_cong hb9]) _ _ hP hD hS _ (lv_sub hl [0, 1, 2, 3] rfl)
  exact loop_4 _ 0 (Nat.lt_succ_self _) (Nat.zero_le _) _ _ hP hD hS _ (lv_sub hl [0, 1, 2] rfl)
set_option maxHeartbeats 4000000 in
set_option maxRecDepth 100000 in
theorem n_heightBehind (l : Launch) (D : va_G) (cI cZ cW cJ : ClassId) (A : Nat → Prop) (X : va_W) (mo zs zv zl zk zt zg zi zw zo ze zd : Nat) (vn vl vh vg vc vr vt vo vp va vb vd vq : Int32) (vm : Bool) (vz : Int64) (gs : Nat → Int32) (S : KS) (at9 : Nat) (hS0 : AbsM S gs) (hWf : Wf S) (hat : at9 ≤ 30) : Met l yX9_heightBehind wsX9_heightBehind ({ frames := 0, cells := 0, slots := 0, locals := 0 }) (va_Pc [.ref mo, .int (nI at9)] (wd D (tyL cI cZ cW cJ) A (oX9 mo zs zv vn zl zk zt vl vh zg zi zw vg zo ze vc vr vt vo (bI vm) vp va vb vd vq zd vz :: aI cI zs 28 gs :: X))) (va_Qi (fun (r : Int32) (u : Unit) => r = arcS S at9) (fun (u : Unit) t => wq D A (oX9 mo zs zv vn zl zk zt vl vh zg zi zw vg zo ze vc vr vt vo (bI vm) vp va vb vd vq zd vz :: aI cI zs 28 gs :: X) t) A) 0 0 A := by
  refine Met.ofW (cc := cX9_heightBehind) (maxL := 5) (ret := (some .int)) (by decide) rfl ?_
  intro p e s m args below meth c s₁ B hml hv
  obtain ⟨rfl, hsz9, hP, hK, hD, hN⟩ := hv
  have hx := B.exec
  have hb := B.bytes
  have hr := B.returns
  have hts := atoms_spec (ws := wsX9_heightBehind) B.pre
  have hown : s.vm.findClass RX9 = some m.cls := findClass_of_methodNamed B.named
  have hlocks := B.notSynchronized
  have CF : CallFix p m c cX9_heightBehind 5 s _ wsX9_heightBehind RX9 := ⟨hx, hb, hml, hown, hts⟩
  have hA : ∀ q : Nat, s.heap.size ≤ q → A q := hsz9
  have hS : va_S A s.heap s.heap [] := va_S.rf
  have hiX9 : ∀ w ∈ u_ws RX9 TX9 26, w ∈ wsX9_heightBehind := fun _ h => List.mem_cons_of_mem _ (List.mem_append_right _ (h))
  have hl := lv_entry ([.ref mo, .int (nI at9)]) (n := 5) (Nat.le_of_ble_eq_true rfl)
  rw [lg_entry_eq]
  generalize (lg_sl ([.ref mo, .int (nI at9)]) ++ List.replicate (5 - (lg_sl ([.ref mo, .int (nI at9)])).length) Slot.unset).toArray = ls at hl ⊢
  have hl : lv_has ls 5 [(0, .ref mo), (1, .int (nI at9))] := hl
  show W p l e ({ frames := 0, cells := 0, slots := 0, locals := 0 } : Room) s m (([.ref mo, .int (nI at9)] : List Value).toArray) below meth c s.heap [] 0 0 (MQ below (va_Qi (fun (r : Int32) (u : Unit) => r = arcS S at9) (fun (u : Unit) t => wq D A (oX9 mo zs zv vn zl zk zt vl vh zg zi zw vg zo ze vc vr vt vo (bI vm) vp va vb vd vq zd vz :: aI cI zs 28 gs :: X) t) A) (([.ref mo, .int (nI at9)] : List Value).toArray) s 0 0 A) (F0 m 0 ls [])
  refine lv_aload_n hx hb dX9_heightBehind_0 rfl (lv_at hl 0 rfl) ?_
  refine va_get (D := D) (ci := 9) (v := .ref zs) (C := RX9) (T := TX9) (N := 26) hx hb hts hiX9 hown hK hP 0 rfl rfl 0 (by decide) (hts (.fieldLink RX9 7 "LedgeLeapsModel" "s" "[I") (List.mem_of_getElem? (i := 1) rfl)) (fun _ h9 => h9) rfl dX9_heightBehind_1 ?_
  refine lv_bipush (v := 20) hx hb dX9_heightBehind_4 (by decide) ?_
  refine va_iald hx hb hK hP 1 0 rfl rfl (show ¬ ((20 : Int32) < 0 ∨ 28 ≤ (20 : Int32).toNatClampNeg) by decide) dX9_heightBehind_6 ?_
  refine top_i (y := (gs 20)) (rfl) ?_
  refine top_i (y := S.2.1.1) hS0.2.1.1 ?_
  refine lv_istore_n (lv' := [(2, .int S.2.1.1), (0, .ref mo), (1, .int (nI at9))]) hx hb dX9_heightBehind_7 rfl hl (by decide) rfl (fun ls hl => ?_)
  refine lv_iload_n hx hb dX9_heightBehind_8 rfl (lv_at hl 0 rfl) ?_
  refine lv_aload_n hx hb dX9_heightBehind_9 rfl (lv_at hl 1 rfl) ?_
  refine va_get (D := D) (ci := 9) (v := .ref zs) (C := RX9) (T := TX9) (N := 26) hx hb hts hiX9 hown hK hP 0 rfl rfl 0 (by decide) (hts (.fieldLink RX9 7 "LedgeLeapsModel" "s" "[I") (List.mem_of_getElem? (i := 1) rfl)) (fun _ h9 => h9) rfl dX9_heightBehind_10 ?_
  refine lv_bipush (v := 21) hx hb dX9_heightBehind_13 (by decide) ?_
  refine va_iald hx hb hK hP 1 0 rfl rfl (show ¬ ((21 : Int32) < 0 ∨ 28 ≤ (21 : Int32).toNatClampNeg) by decide) dX9_heightBehind_15 ?_
  refine top_i (y := (gs 21)) (rfl) ?_
  refine top_i (y := S.2.1.2.1) hS0.2.1.2.1 ?_
  refine lv_iadd hx hb dX9_heightBehind_16 ?_
  refine lv_istore_n (lv' := [(3, .int (S.2.1.1 + S.2.1.2.1)), (2, .int S.2.1.1), (0, .ref mo), (1, .int (nI at9))]) hx hb dX9_heightBehind_17 rfl hl (by decide) rfl (fun ls hl => ?_)
  refine lv_iload_n hx hb dX9_heightBehind_18 rfl (lv_at hl 3 rfl) ?_
  refine lv_iload_n hx hb dX9_heightBehind_19 rfl (lv_at hl 0 rfl) ?_
  refine lv_icmp_ge (tgt := 27) hx hb dX9_heightBehind_20 (by decide) (fun c_20 => ?_) (fun c_20 => ?_)
  · refine lv_iload_n hx hb dX9_heightBehind_27 rfl (lv_at hl 0 rfl) ?_
    refine lv_istore (lv' := [(4, .int (S.2.1.1 + S.2.1.2.1)), (3, .int (S.2.1.1 + S.2.1.2.1)), (2, .int S.2.1.1), (0, .ref mo), (1, .int (nI at9))]) hx hb dX9_heightBehind_28 hl (by decide) rfl (fun ls hl => ?_)
    refine lv_iload hx hb dX9_heightBehind_30 (lv_at hl 0 rfl) ?_
    refine lv_iload_n hx hb dX9_heightBehind_32 rfl (lv_at hl 2 rfl) ?_
    refine lv_imul hx hb dX9_heightBehind_33 ?_
    refine lv_iload hx hb dX9_heightBehind_34 (lv_at hl 0 rfl) ?_
    refine lv_iload hx hb dX9_heightBehind_36 (lv_at hl 0 rfl) ?_
    refine lv_iconst (v := 1) hx hb dX9_heightBehind_38 (by decide) ?_
    refine lv_isub hx hb dX9_heightBehind_39 ?_
    refine lv_imul hx hb dX9_heightBehind_40 ?_
    refine lv_iconst (v := 2) hx hb dX9_heightBehind_41 (by decide) ?_
    refine lv_idiv hx hb dX9_heightBehind_42 (by decide) ?_
    refine lv_isub hx hb dX9_heightBehind_43 ?_
    refine lv_iload_n hx hb dX9_heightBehind_44 rfl (lv_at hl 4 rfl) ?_
    refine lv_iload hx hb dX9_heightBehind_45 (lv_at hl 0 rfl) ?_
    refine lv_isub hx hb dX9_heightBehind_47 ?_
    refine lv_aload_n hx hb dX9_heightBehind_48 rfl (lv_at hl 3 rfl) ?_
    refine va_get (D := D) (ci := 9) (v := .ref zs) (C := RX9) (T := TX9) (N := 26) hx hb hts hiX9 hown hK hP 0 rfl rfl 0 (by decide) (hts (.fieldLink RX9 7 "LedgeLeapsModel" "s" "[I") (List.mem_of_getElem? (i := 1) rfl)) (fun _ h9 => h9) rfl dX9_heightBehind_49 ?_
    refine lv_bipush (v := 21) hx hb dX9_heightBehind_52 (by decide) ?_
    refine va_iald hx hb hK hP 1 0 rfl rfl (show ¬ ((21 : Int32) < 0 ∨ 28 ≤ (21 : Int32).toNatClampNeg) by decide) dX9_heightBehind_54 ?_
    refine top_i (y := (gs 21)) (rfl) ?_
    refine top_i (y := S.2.1.2.1) hS0.2.1.2.1 ?_
    refine lv_imul hx hb dX9_heightBehind_55 ?_
    refine lv_isub hx hb dX9_heightBehind_56 ?_
    refine lv_sipush (v := 200) hx hb dX9_heightBehind_57 (by decide) ?_
    refine lv_iadd hx hb dX9_heightBehind_60 ?_
    exact W.iret (v := (((((S.2.1.1 + S.2.1.2.1) * S.2.1.1) - (((S.2.1.1 + S.2.1.2.1) * ((S.2.1.1 + S.2.1.2.1) - 1)) / 2)) - (((nI at9) - (S.2.1.1 + S.2.1.2.1)) * S.2.1.2.1)) + 200)) hx hb hr (fun t9 ht9 hW9 => ⟨⟨(((((S.2.1.1 + S.2.1.2.1) * S.2.1.1) - (((S.2.1.1 + S.2.1.2.1) * ((S.2.1.1 + S.2.1.2.1) - 1)) / 2)) - (((nI at9) - (S.2.1.1 + S.2.1.2.1)) * S.2.1.2.1)) + 200), (), rfl, by rw [← arc_M hWf hat]; unfold mArc; rw [if_neg (Int32.not_lt.mpr c_20)], by rw [ht9]; exact hP, hD⟩, hS.F ht9⟩) hS.2.2 dX9_heightBehind_61
  · refine lv_iload_n hx hb dX9_heightBehind_23 rfl (lv_at hl 3 rfl) ?_
    refine lv_goto (tgt := 28) hx hb dX9_heightBehind_24 (by decide) ?_
    refine lv_istore (lv' := [(4, .int (nI at9)), (3, .int (S.2.1.1 + S.2.1.2.1)), (2, .int S.2.1.1), (0, .ref mo), (1, .int (nI at9))]) hx hb dX9_heightBehind_28 hl (by decide) rfl (fun ls hl => ?_)
    refine lv_iload hx hb dX9_heightBehind_30 (lv_at hl 0 rfl) ?_
    refine lv_iload_n hx hb dX9_heightBehind_32 rfl (lv_at hl 2 rfl) ?_
    refine lv_imul hx hb dX9_heightBehind_33 ?_
    refine lv_iload hx hb dX9_heightBehind_34 (lv_at hl 0 rfl) ?_
    refine lv_iload hx hb dX9_heightBehind_36 (lv_at hl 0 rfl) ?_
    refine lv_iconst (v := 1) hx hb dX9_heightBehind_38 (by decide) ?_
    refine lv_isub hx hb dX9_heightBehind_39 ?_
    refine lv_imul hx hb dX9_heightBehind_40 ?_
    refine lv_iconst (v := 2) hx hb dX9_heightBehind_41 (by decide) ?_
    refine lv_idiv hx hb dX9_heightBehind_42 (by decide) ?_
    refine lv_isub hx hb dX9_heightBehind_43 ?_
    refine lv_iload_n hx hb dX9_heightBehind_44 rfl (lv_at hl 4 rfl) ?_
    refine lv_iload hx hb dX9_heightBehind_45 (lv_at hl 0 rfl) ?_
    refine lv_isub hx hb dX9_heightBehind_47 ?_
    refine lv_aload_n hx hb dX9_heightBehind_48 rfl (lv_at hl 3 rfl) ?_
    refine va_get (D := D) (ci := 9) (v := .ref zs) (C := RX9) (T := TX9) (N := 26) hx hb hts hiX9 hown hK hP 0 rfl rfl 0 (by decide) (hts (.fieldLink RX9 7 "LedgeLeapsModel" "s" "[I") (List.mem_of_getElem? (i := 1) rfl)) (fun _ h9 => h9) rfl dX9_heightBehind_49 ?_
    refine lv_bipush (v := 21) hx hb dX9_heightBehind_52 (by decide) ?_
    refine va_iald hx hb hK hP 1 0 rfl rfl (show ¬ ((21 : Int32) < 0 ∨ 28 ≤ (21 : Int32).toNatClampNeg) by decide) dX9_heightBehind_54 ?_
    refine top_i (y := (gs 21)) (rfl) ?_
    refine top_i (y := S.2.1.2.1) hS0.2.1.2.1 ?_
    refine lv_imul hx hb dX9_heightBehind_55 ?_
    refine lv_isub hx hb dX9_heightBehind_56 ?_
    refine lv_sipush (v := 200) hx hb dX9_heightBehind_57 (by decide) ?_
    refine lv_iadd hx hb dX9_heightBehind_60 ?_
    exact W.iret (v := (((((nI at9) * S.2.1.1) - (((nI at9) * ((nI at9) - 1)) / 2)) - (((nI at9) - (nI at9)) * S.2.1.2.1)) + 200)) hx hb hr (fun t9 ht9 hW9 => ⟨⟨(((((nI at9) * S.2.1.1) - (((nI at9) * ((nI at9) - 1)) / 2)) - (((nI at9) - (nI at9)) * S.2.1.2.1)) + 200), (), rfl, by rw [← arc_M hWf hat]; unfold mArc; rw [if_pos (Int32.not_le.mp c_20)], by rw [ht9]; exact hP, hD⟩, hS.F ht9⟩) hS.2.2 dX9_heightBehind_61
set_option maxHeartbeats 4000000 in
set_option maxRecDepth 100000 in
theorem n_leapTold (l : Launch) (D : va_G) (cI cZ cW cJ : ClassId) (A : Nat → Prop) (X : va_W) (mo zs zv zl zk zt zg zi zw zo ze zd : Nat) (vn vl vh vg vc vr vt vo vp va vb vd vq : Int32) (vm : Bool) (vz : Int64) (gs : Nat → Int32) (S : KS) (ac ar ak kk : Nat) (xd : Int32) (hS0 : AbsM S gs) (hWf : Wf S) (hac : ac < 20) (har : ar < 10) (hak : ak ≤ 3) (hkk : kk < 5) : Met l yX9_leapTold wsX9_leapTold ({ frames := 6, cells := 0, slots := 0, locals := 140 }) (va_Pc [.ref mo, .int (nI ac), .int (nI ar), .int xd, .int (nI ak), .int (nI kk)] (wd D (tyL cI cZ cW cJ) A (oX9 mo zs zv vn zl zk zt vl vh zg zi zw vg zo ze vc vr vt vo (bI vm) vp va vb vd vq zd vz :: aI cI zs 28 gs :: X))) (va_Qi (fun (r : Int32) (u : Int32 × Int32 × Int32 × Int32 × Bool) => r = leapS S ac ar xd ak kk ∧ True) (fun (u : Int32 × Int32 × Int32 × Int32 × Bool) t => wq D A (oX9 mo zs zv vn zl zk zt vl vh zg zi zw vg zo ze u.1 u.2.1 u.2.2.1 u.2.2.2.1 (bI u.2.2.2.2) vp va vb vd vq zd vz :: aI cI zs 28 gs :: X) t) A) 0 0 A := by
  refine Met.ofW (cc := cX9_leapTold) (maxL := 6) (ret := (some .int)) (by decide) rfl ?_
  intro p e s m args below meth c s₁ B hml hv
  obtain ⟨rfl, hsz9, hP, hK, hD, hN⟩ := hv
  have hx := B.exec
  have hb := B.bytes
  have hr := B.returns
  have hts := atoms_spec (ws := wsX9_leapTold) B.pre
  have hown : s.vm.findClass RX9 = some m.cls := findClass_of_methodNamed B.named
  have hlocks := B.notSynchronized
  have CF : CallFix p m c cX9_leapTold 6 s _ wsX9_leapTold RX9 := ⟨hx, hb, hml, hown, hts⟩
  have hA : ∀ q : Nat, s.heap.size ≤ q → A q := hsz9
  have hS : va_S A s.heap s.heap [] := va_S.rf
  have hiX9 : ∀ w ∈ u_ws RX9 TX9 26, w ∈ wsX9_leapTold := fun _ h => List.mem_cons_of_mem _ (List.mem_append_right _ (h))
  have hl := lv_entry ([.ref mo, .int (nI ac), .int (nI ar), .int xd, .int (nI ak), .int (nI kk)]) (n := 6) (Nat.le_of_ble_eq_true rfl)
  rw [lg_entry_eq]
  generalize (lg_sl ([.ref mo, .int (nI ac), .int (nI ar), .int xd, .int (nI ak), .int (nI kk)]) ++ List.replicate (6 - (lg_sl ([.ref mo, .int (nI ac), .int (nI ar), .int xd, .int (nI ak), .int (nI kk)])).length) Slot.unset).toArray = ls at hl ⊢
  have hl : lv_has ls 6 [(0, .ref mo), (1, .int (nI ac)), (2, .int (nI ar)), (3, .int xd), (4, .int (nI ak)), (5, .int (nI kk))] := hl
  show W p l e ({ frames := 6, cells := 0, slots := 0, locals := 140 } : Room) s m (([.ref mo, .int (nI ac), .int (nI ar), .int xd, .int (nI ak), .int (nI kk)] : List Value).toArray) below meth c s.heap [] 0 0 (MQ below (va_Qi (fun (r : Int32) (u : Int32 × Int32 × Int32 × Int32 × Bool) => r = leapS S ac ar xd ak kk ∧ True) (fun (u : Int32 × Int32 × Int32 × Int32 × Bool) t => wq D A (oX9 mo zs zv vn zl zk zt vl vh zg zi zw vg zo ze u.1 u.2.1 u.2.2.1 u.2.2.2.1 (bI u.2.2.2.2) vp va vb vd vq zd vz :: aI cI zs 28 gs :: X) t) A) (([.ref mo, .int (nI ac), .int (nI ar), .int xd, .int (nI ak), .int (nI kk)] : List Value).toArray) s 0 0 A) (F0 m 0 ls [])
  refine lv_aload_n hx hb dX9_leapTold_0 rfl (lv_at hl 0 rfl) ?_
  refine lv_iload_n hx hb dX9_leapTold_1 rfl (lv_at hl 1 rfl) ?_
  refine lv_iload_n hx hb dX9_leapTold_2 rfl (lv_at hl 2 rfl) ?_
  refine lv_iload_n hx hb dX9_leapTold_3 rfl (lv_at hl 3 rfl) ?_
  refine lv_iload hx hb dX9_leapTold_4 (lv_at hl 4 rfl) ?_
  refine cV_i CF hK hN hA hS (cut_of 2 [0, 1] hP hD rfl rfl rfl) (n_tries l D cI cZ cW cJ A (X) mo zs zv zl zk zt zg zi zw zo ze zd vn vl vh vg vc vr vt vo vp va vb vd vq vm vz gs S ac ar ak xd hS0 hWf hac har hak) (cwV 4 hts gX9_leapTold_X9_tries rfl rfl rfl (by decide +kernel) ⟨Nat.le_of_ble_eq_true rfl, Nat.le_of_ble_eq_true rfl⟩) (As := [.int (nI ac), .int (nI ar), .int xd, .int (nI ak)]) (rest := []) (ci := 9) (q0 := 0) rfl rfl rfl hl.1 rfl (Nat.le_of_ble_eq_true rfl) dX9_leapTold_6 ⟨Nat.le_of_ble_eq_true rfl, Nat.le_of_ble_eq_true rfl⟩ (fun r_6 u_6 H locs hq hP hD hS => ?_)
  have hq_6 : r_6 = bI (!decide (grB (Bk S.1) (nI ac) (nI ar) xd < nI ak)) ∧ (¬ grB (Bk S.1) (nI ac) (nI ar) xd < nI ak → u_6.1 = (flyR (Bk S.1) S.2.1.1 S.2.1.2.1 S.2.1.2.2 xd ac ar ak).1 ∧ u_6.2.1 = (flyR (Bk S.1) S.2.1.1 S.2.1.2.1 S.2.1.2.2 xd ac ar ak).2.1 ∧ u_6.2.2.1 = (flyR (Bk S.1) S.2.1.1 S.2.1.2.1 S.2.1.2.2 xd ac ar ak).2.2.1 ∧ u_6.2.2.2.1 = (flyR (Bk S.1) S.2.1.1 S.2.1.2.1 S.2.1.2.2 xd ac ar ak).2.2.2.1 ∧ u_6.2.2.2.2 = (flyR (Bk S.1) S.2.1.1 S.2.1.2.1 S.2.1.2.2 xd ac ar ak).2.2.2.2.1) := hq
  have hr_6 : r_6 = bI (!decide (grB (Bk S.1) (nI ac) (nI ar) xd < nI ak)) := hq_6.1
  subst hr_6
  have hP : va_P D vwCl (oX9 mo zs zv vn zl zk zt vl vh zg zi zw vg zo ze u_6.1 u_6.2.1 u_6.2.2.1 u_6.2.2.2.1 (bI u_6.2.2.2.2) vp va vb vd vq zd vz :: aI cI zs 28 gs :: X) H := pm_P hP 2 [0, 1] rfl
  have hD : va_D A (oX9 mo zs zv vn zl zk zt vl vh zg zi zw vg zo ze u_6.1 u_6.2.1 u_6.2.2.1 u_6.2.2.2.1 (bI u_6.2.2.2.2) vp va vb vd vq zd vz :: aI cI zs 28 gs :: X) := pm_D hD 2 [0, 1] rfl rfl rfl
  refine lv_if_ne (tgt := 14) hx hb dX9_leapTold_9 (by decide) (fun c_9 => ?_) (fun c_9 => ?_)
  · have hng : ¬ grB (Bk S.1) (nI ac) (nI ar) xd < nI ak := by have q := bt_c c_9; intro z; rw [decide_eq_true z] at q; cases q
    obtain ⟨f1, f2, f3, f4, f5⟩ := hq_6.2 hng
    refine lv_iload hx hb dX9_leapTold_14 (lv_at hl 5 rfl) ?_
    refine lv_if_ne (tgt := 26) hx hb dX9_leapTold_16 (by decide) (fun c_16 => ?_) (fun c_16 => ?_)
    · refine lv_iload hx hb dX9_leapTold_26 (lv_at hl 5 rfl) ?_
      refine lv_iconst (v := 1) hx hb dX9_leapTold_28 (by decide) ?_
      refine lv_icmp_ne (tgt := 39) hx hb dX9_leapTold_29 (by decide) (fun c_29 => ?_) (fun c_29 => ?_)
      · refine lv_iload hx hb dX9_leapTold_39 (lv_at hl 5 rfl) ?_
        refine lv_iconst (v := 2) hx hb dX9_leapTold_41 (by decide) ?_
        refine lv_icmp_ne (tgt := 52) hx hb dX9_leapTold_42 (by decide) (fun c_42 => ?_) (fun c_42 => ?_)
        · refine lv_iload hx hb dX9_leapTold_52 (lv_at hl 5 rfl) ?_
          refine lv_iconst (v := 3) hx hb dX9_leapTold_54 (by decide) ?_
          refine lv_icmp_ne (tgt := 65) hx hb dX9_leapTold_55 (by decide) (fun c_55 => ?_) (fun c_55 => ?_)
          · refine lv_aload_n hx hb dX9_leapTold_65 rfl (lv_at hl 0 rfl) ?_
            refine va_get (D := D) (ci := 9) (v := .int (bI u_6.2.2.2.2)) (C := RX9) (T := TX9) (N := 26) hx hb hts hiX9 hown hK hP 0 rfl rfl 18 (by decide) (hts (.fieldLink RX9 92 "LedgeLeapsModel" "isMet" "Z") (List.mem_of_getElem? (i := 5) rfl)) (fun _ h9 => h9) rfl dX9_leapTold_66 ?_
            refine lv_if_eq (tgt := 76) hx hb dX9_leapTold_69 (by decide) (fun c_69 => ?_) (fun c_69 => ?_)
            · refine lv_iconst (v := 0) hx hb dX9_leapTold_76 (by decide) ?_
              exact W.iret (v := 0) hx hb hr (fun t9 ht9 hW9 => ⟨⟨0, u_6, rfl, ⟨by rw [show kk = 4 by have h0 : ¬ kk = 0 := fun q => c_16 (by rw [q]; rfl); have h1 : ¬ kk = 1 := fun q => c_29 (by rw [q]; rfl); have h2 : ¬ kk = 2 := fun q => c_42 (by rw [q]; rfl); have h3 : ¬ kk = 3 := fun q => c_55 (by rw [q]; rfl); omega]; unfold leapS; rw [if_neg hng]; show _ = bI _; rw [← f5, bf_c c_69]; rfl, trivial⟩, by rw [ht9]; exact hP, hD⟩, hS.F ht9⟩) hS.2.2 dX9_leapTold_77
            · refine lv_iconst (v := 1) hx hb dX9_leapTold_72 (by decide) ?_
              refine lv_goto (tgt := 77) hx hb dX9_leapTold_73 (by decide) ?_
              exact W.iret (v := 1) hx hb hr (fun t9 ht9 hW9 => ⟨⟨1, u_6, rfl, ⟨by rw [show kk = 4 by have h0 : ¬ kk = 0 := fun q => c_16 (by rw [q]; rfl); have h1 : ¬ kk = 1 := fun q => c_29 (by rw [q]; rfl); have h2 : ¬ kk = 2 := fun q => c_42 (by rw [q]; rfl); have h3 : ¬ kk = 3 := fun q => c_55 (by rw [q]; rfl); omega]; unfold leapS; rw [if_neg hng]; show _ = bI _; rw [← f5, bt_c c_69]; rfl, trivial⟩, by rw [ht9]; exact hP, hD⟩, hS.F ht9⟩) hS.2.2 dX9_leapTold_77
          · refine lv_aload_n hx hb dX9_leapTold_58 rfl (lv_at hl 0 rfl) ?_
            refine va_get (D := D) (ci := 9) (v := .int u_6.2.2.2.1) (C := RX9) (T := TX9) (N := 26) hx hb hts hiX9 hown hK hP 0 rfl rfl 17 (by decide) (hts (.fieldLink RX9 82 "LedgeLeapsModel" "top" "I") (List.mem_of_getElem? (i := 4) rfl)) (fun _ h9 => h9) rfl dX9_leapTold_59 ?_
            refine lv_goto (tgt := 77) hx hb dX9_leapTold_62 (by decide) ?_
            exact W.iret (v := u_6.2.2.2.1) hx hb hr (fun t9 ht9 hW9 => ⟨⟨u_6.2.2.2.1, u_6, rfl, ⟨by rw [show kk = 3 from nI_inj (by omega) (by decide) c_55]; unfold leapS; rw [if_neg hng]; exact f4, trivial⟩, by rw [ht9]; exact hP, hD⟩, hS.F ht9⟩) hS.2.2 dX9_leapTold_77
        · refine lv_aload_n hx hb dX9_leapTold_45 rfl (lv_at hl 0 rfl) ?_
          refine va_get (D := D) (ci := 9) (v := .int u_6.2.2.1) (C := RX9) (T := TX9) (N := 26) hx hb hts hiX9 hown hK hP 0 rfl rfl 16 (by decide) (hts (.fieldLink RX9 89 "LedgeLeapsModel" "ticks" "I") (List.mem_of_getElem? (i := 3) rfl)) (fun _ h9 => h9) rfl dX9_leapTold_46 ?_
          refine lv_goto (tgt := 77) hx hb dX9_leapTold_49 (by decide) ?_
          exact W.iret (v := u_6.2.2.1) hx hb hr (fun t9 ht9 hW9 => ⟨⟨u_6.2.2.1, u_6, rfl, ⟨by rw [show kk = 2 from nI_inj (by omega) (by decide) c_42]; unfold leapS; rw [if_neg hng]; exact f3, trivial⟩, by rw [ht9]; exact hP, hD⟩, hS.F ht9⟩) hS.2.2 dX9_leapTold_77
      · refine lv_aload_n hx hb dX9_leapTold_32 rfl (lv_at hl 0 rfl) ?_
        refine va_get (D := D) (ci := 9) (v := .int u_6.2.1) (C := RX9) (T := TX9) (N := 26) hx hb hts hiX9 hown hK hP 0 rfl rfl 15 (by decide) (hts (.fieldLink RX9 79 "LedgeLeapsModel" "row" "I") (List.mem_of_getElem? (i := 2) rfl)) (fun _ h9 => h9) rfl dX9_leapTold_33 ?_
        refine lv_goto (tgt := 77) hx hb dX9_leapTold_36 (by decide) ?_
        exact W.iret (v := u_6.2.1) hx hb hr (fun t9 ht9 hW9 => ⟨⟨u_6.2.1, u_6, rfl, ⟨by rw [show kk = 1 from nI_inj (by omega) (by decide) c_29]; unfold leapS; rw [if_neg hng]; exact f2, trivial⟩, by rw [ht9]; exact hP, hD⟩, hS.F ht9⟩) hS.2.2 dX9_leapTold_77
    · refine lv_aload_n hx hb dX9_leapTold_19 rfl (lv_at hl 0 rfl) ?_
      refine va_get (D := D) (ci := 9) (v := .int u_6.1) (C := RX9) (T := TX9) (N := 26) hx hb hts hiX9 hown hK hP 0 rfl rfl 14 (by decide) (hts (.fieldLink RX9 76 "LedgeLeapsModel" "column" "I") (List.mem_of_getElem? (i := 1) rfl)) (fun _ h9 => h9) rfl dX9_leapTold_20 ?_
      refine lv_goto (tgt := 77) hx hb dX9_leapTold_23 (by decide) ?_
      exact W.iret (v := u_6.1) hx hb hr (fun t9 ht9 hW9 => ⟨⟨u_6.1, u_6, rfl, ⟨by rw [show kk = 0 from nI_inj (by omega) (by decide) c_16]; unfold leapS; rw [if_neg hng]; exact f1, trivial⟩, by rw [ht9]; exact hP, hD⟩, hS.F ht9⟩) hS.2.2 dX9_leapTold_77
  · refine lv_iconst (v := (-1)) hx hb dX9_leapTold_12 (by decide) ?_
    exact W.iret (v := (-1)) hx hb hr (fun t9 ht9 hW9 => ⟨⟨(-1), u_6, rfl, ⟨by unfold leapS; rw [if_pos (of_decide_eq_true (by have q := bf_c c_9; revert q; cases decide (grB (Bk S.1) (nI ac) (nI ar) xd < nI ak) <;> simp))], trivial⟩, by rw [ht9]; exact hP, hD⟩, hS.F ht9⟩) hS.2.2 dX9_leapTold_13
set_option maxHeartbeats 4000000 in
set_option maxRecDepth 100000 in
theorem n_onlyTold (l : Launch) (D : va_G) (cI cZ cW cJ : ClassId) (A : Nat → Prop) (X : va_W) (mo zs zv zl zk zt zg zi zw zo ze zd : Nat) (vn vl vh vc vr vt vo vp va vb vd vq : Int32) (vm : Bool) (vz : Int64) (gs gg gi gw go ge gd : Nat → Int32) (S : KS) (xk : Int32) (hS0 : AbsM S gs) (hWf : Wf S) (hM : MapM S gg gi gw) (hR : RchM S go) : Met l yX9_onlyTold wsX9_onlyTold ({ frames := 2, cells := 0, slots := 0, locals := 49 }) (va_Pc [.ref mo, .int xk] (wd D (tyL cI cZ cW cJ) A (oX9 mo zs zv vn zl zk zt vl vh zg zi zw (nI (nS S)) zo ze vc vr vt vo (bI vm) vp va vb vd vq zd vz :: aI cI zs 28 gs :: aI cI zg 200 gg :: aI cI zi 100 gi :: aI cI zw 100 gw :: aI cI zo 10000 go :: aI cI ze 100 ge :: aZ cZ zd 100 gd :: X))) (va_Qi (fun (r : Int32) (u : (Nat → Int32) × (Nat → Int32)) => r = onlyS S xk ∧ True) (fun (u : (Nat → Int32) × (Nat → Int32)) t => wq D A (oX9 mo zs zv vn zl zk zt vl vh zg zi zw (nI (nS S)) zo ze vc vr vt vo (bI vm) vp va vb vd vq zd vz :: aI cI zs 28 gs :: aI cI zg 200 gg :: aI cI zi 100 gi :: aI cI zw 100 gw :: aI cI zo 10000 go :: aI cI ze 100 u.1 :: aZ cZ zd 100 u.2 :: X) t) A) 0 0 A := by
  refine Met.ofW (cc := cX9_onlyTold) (maxL := 4) (ret := (some .int)) (by decide) rfl ?_
  intro p e s m args below meth c s₁ B hml hv
  obtain ⟨rfl, hsz9, hP, hK, hD, hN⟩ := hv
  have hx := B.exec
  have hb := B.bytes
  have hr := B.returns
  have hts := atoms_spec (ws := wsX9_onlyTold) B.pre
  have hown : s.vm.findClass RX9 = some m.cls := findClass_of_methodNamed B.named
  have hlocks := B.notSynchronized
  have CF : CallFix p m c cX9_onlyTold 4 s _ wsX9_onlyTold RX9 := ⟨hx, hb, hml, hown, hts⟩
  have hA : ∀ q : Nat, s.heap.size ≤ q → A q := hsz9
  have hS : va_S A s.heap s.heap [] := va_S.rf
  have hiX9 : ∀ w ∈ u_ws RX9 TX9 26, w ∈ wsX9_onlyTold := fun _ h => List.mem_cons_of_mem _ (List.mem_append_right _ (h))
  have hl := lv_entry ([.ref mo, .int xk]) (n := 4) (Nat.le_of_ble_eq_true rfl)
  rw [lg_entry_eq]
  generalize (lg_sl ([.ref mo, .int xk]) ++ List.replicate (4 - (lg_sl ([.ref mo, .int xk])).length) Slot.unset).toArray = ls at hl ⊢
  have hl : lv_has ls 4 [(0, .ref mo), (1, .int xk)] := hl
  show W p l e ({ frames := 2, cells := 0, slots := 0, locals := 49 } : Room) s m (([.ref mo, .int xk] : List Value).toArray) below meth c s.heap [] 0 0 (MQ below (va_Qi (fun (r : Int32) (u : (Nat → Int32) × (Nat → Int32)) => r = onlyS S xk ∧ True) (fun (u : (Nat → Int32) × (Nat → Int32)) t => wq D A (oX9 mo zs zv vn zl zk zt vl vh zg zi zw (nI (nS S)) zo ze vc vr vt vo (bI vm) vp va vb vd vq zd vz :: aI cI zs 28 gs :: aI cI zg 200 gg :: aI cI zi 100 gi :: aI cI zw 100 gw :: aI cI zo 10000 go :: aI cI ze 100 u.1 :: aZ cZ zd 100 u.2 :: X) t) A) (([.ref mo, .int xk] : List Value).toArray) s 0 0 A) (F0 m 0 ls [])
  have hn9 : nS S ≤ 100 := nL_le _
  refine lv_aload_n hx hb dX9_onlyTold_0 rfl (lv_at hl 0 rfl) ?_
  refine lv_aload_n hx hb dX9_onlyTold_1 rfl (lv_at hl 0 rfl) ?_
  refine cV_i CF hK hN hA hS (cut_of 8 [0, 1, 2, 3, 4, 5, 6, 7] hP hD rfl rfl rfl) (n_ownLedge l D cI cZ cW cJ A (aI cI zi 100 gi :: aI cI zw 100 gw :: aI cI zo 10000 go :: aI cI ze 100 ge :: aZ cZ zd 100 gd :: X) mo zs zv zl zk zt zg zi zw zo ze zd vn vl vh (nI (nS S)) vc vr vt vo vp va vb vd vq vm vz gs gg S hS0 hWf) (cwV 0 hts gX9_onlyTold_X9_ownLedge rfl rfl rfl (by decide +kernel) ⟨Nat.le_of_ble_eq_true rfl, Nat.le_of_ble_eq_true rfl⟩) (As := []) (rest := [.ref mo]) (ci := 9) (q0 := 0) rfl rfl rfl hl.1 rfl (Nat.le_of_ble_eq_true rfl) dX9_onlyTold_2 ⟨Nat.le_of_ble_eq_true rfl, Nat.le_of_ble_eq_true rfl⟩ (fun r_2 _ H locs hq hP hD hS => ?_)
  have hq : r_2 = gg (20 * S.2.2.1.2 + S.2.2.1.1) := hq
  subst hq
  have hP : va_P D vwCl (oX9 mo zs zv vn zl zk zt vl vh zg zi zw (nI (nS S)) zo ze vc vr vt vo (bI vm) vp va vb vd vq zd vz :: aI cI zs 28 gs :: aI cI zg 200 gg :: aI cI zi 100 gi :: aI cI zw 100 gw :: aI cI zo 10000 go :: aI cI ze 100 ge :: aZ cZ zd 100 gd :: X) H := pm_P hP 8 [0, 1, 2, 3, 4, 5, 6, 7] rfl
  have hD : va_D A (oX9 mo zs zv vn zl zk zt vl vh zg zi zw (nI (nS S)) zo ze vc vr vt vo (bI vm) vp va vb vd vq zd vz :: aI cI zs 28 gs :: aI cI zg 200 gg :: aI cI zi 100 gi :: aI cI zw 100 gw :: aI cI zo 10000 go :: aI cI ze 100 ge :: aZ cZ zd 100 gd :: X) := pm_D hD 8 [0, 1, 2, 3, 4, 5, 6, 7] rfl rfl rfl
  refine top_i (y := (nI (owS S))) (own_M hM hWf) ?_
  refine lv_iconst (v := 0) hx hb dX9_onlyTold_5 (by decide) ?_
  refine cV_v CF hK hN hA hS (cut_of 8 [0, 5, 6, 1, 2, 3, 4, 7] hP hD rfl rfl rfl) (n_spread l D cI cZ cW cJ A (aI cI zs 28 gs :: aI cI zg 200 gg :: aI cI zi 100 gi :: aI cI zw 100 gw :: aZ cZ zd 100 gd :: X) mo zs zv zl zk zt zg zi zw zo ze zd vn vl vh vc vr vt vo vp va vb vd vq vm vz go ge S (owS S) 0 hR ((owS_lt hWf).1) (by decide)) (cwV 2 hts gX9_onlyTold_X9_spread rfl rfl rfl (by decide +kernel) ⟨Nat.le_of_ble_eq_true rfl, Nat.le_of_ble_eq_true rfl⟩) (As := [.int (nI (owS S)), .int 0]) (rest := []) (ci := 9) (q0 := 0) rfl rfl rfl hl.1 rfl (Nat.le_of_ble_eq_true rfl) dX9_onlyTold_6 ⟨Nat.le_of_ble_eq_true rfl, Nat.le_of_ble_eq_true rfl⟩ (fun u_6 H locs hq hP hD hS => ?_)
  have hq_6 : ∀ b, b < nS S → u_6 b = dS S 0 (owS S) b := hq
  have hP : va_P D vwCl (oX9 mo zs zv vn zl zk zt vl vh zg zi zw (nI (nS S)) zo ze vc vr vt vo (bI vm) vp va vb vd vq zd vz :: aI cI zs 28 gs :: aI cI zg 200 gg :: aI cI zi 100 gi :: aI cI zw 100 gw :: aI cI zo 10000 go :: aI cI ze 100 u_6 :: aZ cZ zd 100 gd :: X) H := pm_P hP 8 [0, 3, 4, 5, 6, 1, 2, 7] rfl
  have hD : va_D A (oX9 mo zs zv vn zl zk zt vl vh zg zi zw (nI (nS S)) zo ze vc vr vt vo (bI vm) vp va vb vd vq zd vz :: aI cI zs 28 gs :: aI cI zg 200 gg :: aI cI zi 100 gi :: aI cI zw 100 gw :: aI cI zo 10000 go :: aI cI ze 100 u_6 :: aZ cZ zd 100 gd :: X) := pm_D hD 8 [0, 3, 4, 5, 6, 1, 2, 7] rfl rfl rfl
  refine lv_iconst (v := 0) hx hb dX9_onlyTold_9 (by decide) ?_
  refine lv_istore_n (lv' := [(2, .int 0), (0, .ref mo), (1, .int xk)]) hx hb dX9_onlyTold_10 rfl hl (by decide) rfl (fun ls hl => ?_)
  have loop_11 : ∀ (nfu : Nat) (i : Nat) (d9 : Nat → Int32) (hn_11 : nS S - i < nfu) (hi : i ≤ nS S) (hd9 : ∀ b, b < i → d9 b = bI (rcS S 0 b)) (H : Heap) (locs : List Loc) (hP : va_P D vwCl (oX9 mo zs zv vn zl zk zt vl vh zg zi zw (nI (nS S)) zo ze vc vr vt vo (bI vm) vp va vb vd vq zd vz :: aI cI zs 28 gs :: aI cI zg 200 gg :: aI cI zi 100 gi :: aI cI zw 100 gw :: aI cI zo 10000 go :: aI cI ze 100 u_6 :: aZ cZ zd 100 d9 :: X) H) (hD : va_D A (oX9 mo zs zv vn zl zk zt vl vh zg zi zw (nI (nS S)) zo ze vc vr vt vo (bI vm) vp va vb vd vq zd vz :: aI cI zs 28 gs :: aI cI zg 200 gg :: aI cI zi 100 gi :: aI cI zw 100 gw :: aI cI zo 10000 go :: aI cI ze 100 u_6 :: aZ cZ zd 100 d9 :: X)) (hS : va_S A s.heap H locs) (ls : Array Slot) (hl : lv_has ls 4 [(2, .int (nI i)), (0, .ref mo), (1, .int xk)]), W p l e ({ frames := 2, cells := 0, slots := 0, locals := 49 } : Room) s m (([.ref mo, .int xk] : List Value).toArray) below meth c H locs 0 0 (MQ below (va_Qi (fun (r : Int32) (u : (Nat → Int32) × (Nat → Int32)) => r = onlyS S xk ∧ True) (fun (u : (Nat → Int32) × (Nat → Int32)) t => wq D A (oX9 mo zs zv vn zl zk zt vl vh zg zi zw (nI (nS S)) zo ze vc vr vt vo (bI vm) vp va vb vd vq zd vz :: aI cI zs 28 gs :: aI cI zg 200 gg :: aI cI zi 100 gi :: aI cI zw 100 gw :: aI cI zo 10000 go :: aI cI ze 100 u.1 :: aZ cZ zd 100 u.2 :: X) t) A) (([.ref mo, .int xk] : List Value).toArray) s 0 0 A) (F0 m 11 ls []) := by
    intro nfu
    induction nfu with
    | zero => intro i d9 hn_11; exact absurd hn_11 (Nat.not_lt_zero _)
    | succ nfu ih_11 =>
      intro i d9 hn_11 hi hd9 H locs hP hD hS ls hl
      refine lv_iload_n hx hb dX9_onlyTold_11 rfl (lv_at hl 0 rfl) ?_
      refine lv_aload_n hx hb dX9_onlyTold_12 rfl (lv_at hl 1 rfl) ?_
      refine va_get (D := D) (ci := 9) (v := .int (nI (nS S))) (C := RX9) (T := TX9) (N := 26) hx hb hts hiX9 hown hK hP 0 rfl rfl 11 (by decide) (hts (.fieldLink RX9 66 "LedgeLeapsModel" "ledges" "I") (List.mem_of_getElem? (i := 1) rfl)) (fun _ h9 => h9) rfl dX9_onlyTold_13 ?_
      refine lv_icmp_ge (tgt := 46) hx hb dX9_onlyTold_16 (by decide) (fun c_16 => ?_) (fun c_16 => ?_)
      · obtain rfl : i = nS S := by have h := le_of_ge (a := nS S) (b := i) (by omega) (by omega) c_16; omega
        refine lv_aload_n hx hb dX9_onlyTold_46 rfl (lv_at hl 1 rfl) ?_
        refine lv_aload_n hx hb dX9_onlyTold_47 rfl (lv_at hl 1 rfl) ?_
        refine cV_i CF hK hN hA hS (cut_of 8 [0, 1, 2, 3, 4, 5, 6, 7] hP hD rfl rfl rfl) (n_ownLedge l D cI cZ cW cJ A (aI cI zi 100 gi :: aI cI zw 100 gw :: aI cI zo 10000 go :: aI cI ze 100 u_6 :: aZ cZ zd 100 d9 :: X) mo zs zv zl zk zt zg zi zw zo ze zd vn vl vh (nI (nS S)) vc vr vt vo vp va vb vd vq vm vz gs gg S hS0 hWf) (cwV 0 hts gX9_onlyTold_X9_ownLedge rfl rfl rfl (by decide +kernel) ⟨Nat.le_of_ble_eq_true rfl, Nat.le_of_ble_eq_true rfl⟩) (As := []) (rest := [.ref mo]) (ci := 9) (q0 := 0) rfl rfl rfl hl.1 rfl (Nat.le_of_ble_eq_true rfl) dX9_onlyTold_48 ⟨Nat.le_of_ble_eq_true rfl, Nat.le_of_ble_eq_true rfl⟩ (fun r_48 _ H locs hq hP hD hS => ?_)
        have hq : r_48 = gg (20 * S.2.2.1.2 + S.2.2.1.1) := hq
        subst hq
        have hP : va_P D vwCl (oX9 mo zs zv vn zl zk zt vl vh zg zi zw (nI (nS S)) zo ze vc vr vt vo (bI vm) vp va vb vd vq zd vz :: aI cI zs 28 gs :: aI cI zg 200 gg :: aI cI zi 100 gi :: aI cI zw 100 gw :: aI cI zo 10000 go :: aI cI ze 100 u_6 :: aZ cZ zd 100 d9 :: X) H := pm_P hP 8 [0, 1, 2, 3, 4, 5, 6, 7] rfl
        have hD : va_D A (oX9 mo zs zv vn zl zk zt vl vh zg zi zw (nI (nS S)) zo ze vc vr vt vo (bI vm) vp va vb vd vq zd vz :: aI cI zs 28 gs :: aI cI zg 200 gg :: aI cI zi 100 gi :: aI cI zw 100 gw :: aI cI zo 10000 go :: aI cI ze 100 u_6 :: aZ cZ zd 100 d9 :: X) := pm_D hD 8 [0, 1, 2, 3, 4, 5, 6, 7] rfl rfl rfl
        refine top_i (y := (nI (owS S))) (own_M hM hWf) ?_
        refine lv_iconst (v := 3) hx hb dX9_onlyTold_51 (by decide) ?_
        refine cV_v CF hK hN hA hS (cut_of 8 [0, 5, 6, 1, 2, 3, 4, 7] hP hD rfl rfl rfl) (n_spread l D cI cZ cW cJ A (aI cI zs 28 gs :: aI cI zg 200 gg :: aI cI zi 100 gi :: aI cI zw 100 gw :: aZ cZ zd 100 d9 :: X) mo zs zv zl zk zt zg zi zw zo ze zd vn vl vh vc vr vt vo vp va vb vd vq vm vz go u_6 S (owS S) 3 hR ((owS_lt hWf).1) (by decide)) (cwV 2 hts gX9_onlyTold_X9_spread rfl rfl rfl (by decide +kernel) ⟨Nat.le_of_ble_eq_true rfl, Nat.le_of_ble_eq_true rfl⟩) (As := [.int (nI (owS S)), .int 3]) (rest := []) (ci := 9) (q0 := 0) rfl rfl rfl hl.1 rfl (Nat.le_of_ble_eq_true rfl) dX9_onlyTold_52 ⟨Nat.le_of_ble_eq_true rfl, Nat.le_of_ble_eq_true rfl⟩ (fun u_52 H locs hq hP hD hS => ?_)
        have hq_52 : ∀ b, b < nS S → u_52 b = dS S 3 (owS S) b := hq
        have hP : va_P D vwCl (oX9 mo zs zv vn zl zk zt vl vh zg zi zw (nI (nS S)) zo ze vc vr vt vo (bI vm) vp va vb vd vq zd vz :: aI cI zs 28 gs :: aI cI zg 200 gg :: aI cI zi 100 gi :: aI cI zw 100 gw :: aI cI zo 10000 go :: aI cI ze 100 u_52 :: aZ cZ zd 100 d9 :: X) H := pm_P hP 8 [0, 3, 4, 5, 6, 1, 2, 7] rfl
        have hD : va_D A (oX9 mo zs zv vn zl zk zt vl vh zg zi zw (nI (nS S)) zo ze vc vr vt vo (bI vm) vp va vb vd vq zd vz :: aI cI zs 28 gs :: aI cI zg 200 gg :: aI cI zi 100 gi :: aI cI zw 100 gw :: aI cI zo 10000 go :: aI cI ze 100 u_52 :: aZ cZ zd 100 d9 :: X) := pm_D hD 8 [0, 3, 4, 5, 6, 1, 2, 7] rfl rfl rfl
        refine lv_iconst (v := 0) hx hb dX9_onlyTold_55 (by decide) ?_
        refine lv_istore_n (lv' := [(2, .int 0), (0, .ref mo), (1, .int xk)]) hx hb dX9_onlyTold_56 rfl hl (by decide) rfl (fun ls hl => ?_)
        refine lv_iconst (v := 0) hx hb dX9_onlyTold_57 (by decide) ?_
        refine lv_istore_n (lv' := [(3, .int 0), (2, .int 0), (0, .ref mo), (1, .int xk)]) hx hb dX9_onlyTold_58 rfl hl (by decide) rfl (fun ls hl => ?_)
        have loop_59 : ∀ (nfu : Nat) (i : Nat) (n9 : Nat) (hn_59 : nS S - i < nfu) (hi : i ≤ nS S) (hnn : n9 ≤ i) (hv9 : onlyF (fun b => rcS S 3 b && !rcS S 0 b) xk (nS S - i) i n9 = onlyS S xk) (H : Heap) (locs : List Loc) (hP : va_P D vwCl (oX9 mo zs zv vn zl zk zt vl vh zg zi zw (nI (nS S)) zo ze vc vr vt vo (bI vm) vp va vb vd vq zd vz :: aI cI zs 28 gs :: aI cI zg 200 gg :: aI cI zi 100 gi :: aI cI zw 100 gw :: aI cI zo 10000 go :: aI cI ze 100 u_52 :: aZ cZ zd 100 d9 :: X) H) (hD : va_D A (oX9 mo zs zv vn zl zk zt vl vh zg zi zw (nI (nS S)) zo ze vc vr vt vo (bI vm) vp va vb vd vq zd vz :: aI cI zs 28 gs :: aI cI zg 200 gg :: aI cI zi 100 gi :: aI cI zw 100 gw :: aI cI zo 10000 go :: aI cI ze 100 u_52 :: aZ cZ zd 100 d9 :: X)) (hS : va_S A s.heap H locs) (ls : Array Slot) (hl : lv_has ls 4 [(3, .int (nI i)), (2, .int (nI n9)), (0, .ref mo), (1, .int xk)]), W p l e ({ frames := 2, cells := 0, slots := 0, locals := 49 } : Room) s m (([.ref mo, .int xk] : List Value).toArray) below meth c H locs 0 0 (MQ below (va_Qi (fun (r : Int32) (u : (Nat → Int32) × (Nat → Int32)) => r = onlyS S xk ∧ True) (fun (u : (Nat → Int32) × (Nat → Int32)) t => wq D A (oX9 mo zs zv vn zl zk zt vl vh zg zi zw (nI (nS S)) zo ze vc vr vt vo (bI vm) vp va vb vd vq zd vz :: aI cI zs 28 gs :: aI cI zg 200 gg :: aI cI zi 100 gi :: aI cI zw 100 gw :: aI cI zo 10000 go :: aI cI ze 100 u.1 :: aZ cZ zd 100 u.2 :: X) t) A) (([.ref mo, .int xk] : List Value).toArray) s 0 0 A) (F0 m 59 ls []) := by
          intro nfu
          induction nfu with
          | zero => intro i n9 hn_59; exact absurd hn_59 (Nat.not_lt_zero _)
          | succ nfu ih_59 =>
            intro i n9 hn_59 hi hnn hv9 H locs hP hD hS ls hl
            refine lv_iload_n hx hb dX9_onlyTold_59 rfl (lv_at hl 0 rfl) ?_
            refine lv_aload_n hx hb dX9_onlyTold_60 rfl (lv_at hl 2 rfl) ?_
            refine va_get (D := D) (ci := 9) (v := .int (nI (nS S))) (C := RX9) (T := TX9) (N := 26) hx hb hts hiX9 hown hK hP 0 rfl rfl 11 (by decide) (hts (.fieldLink RX9 66 "LedgeLeapsModel" "ledges" "I") (List.mem_of_getElem? (i := 1) rfl)) (fun _ h9 => h9) rfl dX9_onlyTold_61 ?_
            refine lv_icmp_ge (tgt := 102) hx hb dX9_onlyTold_64 (by decide) (fun c_64 => ?_) (fun c_64 => ?_)
            · have hi3 : i = nS S := by have h := le_of_ge (a := nS S) (b := i) (by omega) (by omega) c_64; omega
              refine lv_iconst (v := (-1)) hx hb dX9_onlyTold_102 (by decide) ?_
              exact W.iret (v := (-1)) hx hb hr (fun t9 ht9 hW9 => ⟨⟨(-1), (u_52, d9), rfl, ⟨by rw [← hv9, hi3, Nat.sub_self]; rfl, trivial⟩, by rw [ht9]; exact hP, hD⟩, hS.F ht9⟩) hS.2.2 dX9_onlyTold_103
            · have hi2 : i < nS S := lt_of_nge (a := nS S) (b := i) (by omega) (by omega) c_64
              refine lv_aload_n hx hb dX9_onlyTold_67 rfl (lv_at hl 2 rfl) ?_
              refine va_get (D := D) (ci := 9) (v := .ref ze) (C := RX9) (T := TX9) (N := 26) hx hb hts hiX9 hown hK hP 0 rfl rfl 13 (by decide) (hts (.fieldLink RX9 38 "LedgeLeapsModel" "fewest" "[I") (List.mem_of_getElem? (i := 3) rfl)) (fun _ h9 => h9) rfl dX9_onlyTold_68 ?_
              refine lv_iload_n hx hb dX9_onlyTold_71 rfl (lv_at hl 0 rfl) ?_
              refine va_iald hx hb hK hP 6 0 rfl rfl (vp_ix (e := i) (rfl) (by omega) (by decide)) dX9_onlyTold_72 ?_
              refine top_i (y := (u_52 i)) (ld_ix (f := u_52) (x := (nI i)) (e := i) (n := 100) (rfl) (by omega) (by decide)) ?_
              refine lv_iconst (v := (-1)) hx hb dX9_onlyTold_73 (by decide) ?_
              refine lv_icmp_eq (tgt := 96) hx hb dX9_onlyTold_74 (by decide) (fun c_74 => ?_) (fun c_74 => ?_)
              · refine lv_iinc (v := (nI (i + 1))) (lv' := [(3, .int (nI (i + 1))), (2, .int (nI n9)), (0, .ref mo), (1, .int xk)]) hx hb dX9_onlyTold_96 hl (k := 0) rfl (nI_1 i) (by decide) rfl (fun ls hl => ?_)
                refine lv_goto (tgt := 59) hx hb dX9_onlyTold_99 (by decide) ?_
                exact ih_59 (i + 1) n9 (by omega) (by omega) (by omega) (by rw [← hv9, show nS S - i = (nS S - (i + 1)) + 1 by omega, onlyF, if_neg (fun q => absurd (q.symm.trans (show ((fun b => rcS S 3 b && !rcS S 0 b)) i = false by show (rcS S 3 i && !rcS S 0 i) = false; rw [show rcS S 3 i = false by unfold rcS; rw [← hq_52 i hi2, decide_eq_true c_74]; rfl]; rfl)) (by decide))]) _ _ (hP) (hD) hS _ (lv_sub hl [0, 1, 2, 3] rfl)
              · refine lv_aload_n hx hb dX9_onlyTold_77 rfl (lv_at hl 2 rfl) ?_
                refine va_get (D := D) (ci := 9) (v := .ref zd) (C := RX9) (T := TX9) (N := 26) hx hb hts hiX9 hown hK hP 0 rfl rfl 24 (by decide) (hts (.fieldLink RX9 41 "LedgeLeapsModel" "standing" "[Z") (List.mem_of_getElem? (i := 2) rfl)) (fun _ h9 => h9) rfl dX9_onlyTold_78 ?_
                refine lv_iload_n hx hb dX9_onlyTold_81 rfl (lv_at hl 0 rfl) ?_
                refine va_zald hx hb hK hP 7 1 rfl rfl (vp_ix (e := i) (rfl) (by omega) (by decide)) dX9_onlyTold_82 ?_
                refine top_i (y := (d9 i)) (ld_ix (f := d9) (x := (nI i)) (e := i) (n := 100) (rfl) (by omega) (by decide)) ?_
                refine lv_if_ne (tgt := 96) hx hb dX9_onlyTold_83 (by decide) (fun c_83 => ?_) (fun c_83 => ?_)
                · refine lv_iinc (v := (nI (i + 1))) (lv' := [(3, .int (nI (i + 1))), (2, .int (nI n9)), (0, .ref mo), (1, .int xk)]) hx hb dX9_onlyTold_96 hl (k := 0) rfl (nI_1 i) (by decide) rfl (fun ls hl => ?_)
                  refine lv_goto (tgt := 59) hx hb dX9_onlyTold_99 (by decide) ?_
                  exact ih_59 (i + 1) n9 (by omega) (by omega) (by omega) (by rw [← hv9, show nS S - i = (nS S - (i + 1)) + 1 by omega, onlyF, if_neg (fun q => absurd (q.symm.trans (show ((fun b => rcS S 3 b && !rcS S 0 b)) i = false by show (rcS S 3 i && !rcS S 0 i) = false; rw [show rcS S 3 i = true by unfold rcS; rw [← hq_52 i hi2, decide_eq_false c_74]; rfl, show rcS S 0 i = true from bt_c (by rw [← hd9 i hi2]; exact c_83)]; rfl)) (by decide))]) _ _ (hP) (hD) hS _ (lv_sub hl [0, 1, 2, 3] rfl)
                · refine lv_iload_n hx hb dX9_onlyTold_86 rfl (lv_at hl 1 rfl) ?_
                  refine lv_iload_n hx hb dX9_onlyTold_87 rfl (lv_at hl 3 rfl) ?_
                  refine lv_icmp_ne (tgt := 93) hx hb dX9_onlyTold_88 (by decide) (fun c_88 => ?_) (fun c_88 => ?_)
                  · refine lv_iinc (v := (nI (n9 + 1))) (lv' := [(2, .int (nI (n9 + 1))), (3, .int (nI i)), (0, .ref mo), (1, .int xk)]) hx hb dX9_onlyTold_93 hl (k := 1) rfl (nI_1 n9) (by decide) rfl (fun ls hl => ?_)
                    refine lv_iinc (v := (nI (i + 1))) (lv' := [(3, .int (nI (i + 1))), (2, .int (nI (n9 + 1))), (0, .ref mo), (1, .int xk)]) hx hb dX9_onlyTold_96 hl (k := 1) rfl (nI_1 i) (by decide) rfl (fun ls hl => ?_)
                    refine lv_goto (tgt := 59) hx hb dX9_onlyTold_99 (by decide) ?_
                    exact ih_59 (i + 1) (n9 + 1) (by omega) (by omega) (by omega) (by rw [← hv9, show nS S - i = (nS S - (i + 1)) + 1 by omega, onlyF, if_pos (show ((fun b => rcS S 3 b && !rcS S 0 b)) i = true by show (rcS S 3 i && !rcS S 0 i) = true; rw [show rcS S 3 i = true by unfold rcS; rw [← hq_52 i hi2, decide_eq_false c_74]; rfl, show rcS S 0 i = false from bf_c (by rw [← hd9 i hi2]; exact c_83)]; rfl), if_neg c_88]) _ _ (hP) (hD) hS _ (lv_sub hl [0, 1, 2, 3] rfl)
                  · refine lv_iload_n hx hb dX9_onlyTold_91 rfl (lv_at hl 0 rfl) ?_
                    exact W.iret (v := (nI i)) hx hb hr (fun t9 ht9 hW9 => ⟨⟨(nI i), (u_52, d9), rfl, ⟨by rw [← hv9, show nS S - i = (nS S - (i + 1)) + 1 by omega, onlyF, if_pos (show ((fun b => rcS S 3 b && !rcS S 0 b)) i = true by show (rcS S 3 i && !rcS S 0 i) = true; rw [show rcS S 3 i = true by unfold rcS; rw [← hq_52 i hi2, decide_eq_false c_74]; rfl, show rcS S 0 i = false from bf_c (by rw [← hd9 i hi2]; exact c_83)]; rfl), if_pos c_88], trivial⟩, by rw [ht9]; exact hP, hD⟩, hS.F ht9⟩) hS.2.2 dX9_onlyTold_92
        exact loop_59 _ 0 0 (Nat.lt_succ_self _) (Nat.zero_le _) (Nat.le_refl _) (rfl) _ _ hP hD hS _ (lv_sub hl [0, 1, 2, 3] rfl)
      · have hi2 : i < nS S := lt_of_nge (a := nS S) (b := i) (by omega) (by omega) c_16
        refine lv_aload_n hx hb dX9_onlyTold_19 rfl (lv_at hl 1 rfl) ?_
        refine va_get (D := D) (ci := 9) (v := .ref zd) (C := RX9) (T := TX9) (N := 26) hx hb hts hiX9 hown hK hP 0 rfl rfl 24 (by decide) (hts (.fieldLink RX9 41 "LedgeLeapsModel" "standing" "[Z") (List.mem_of_getElem? (i := 2) rfl)) (fun _ h9 => h9) rfl dX9_onlyTold_20 ?_
        refine lv_iload_n hx hb dX9_onlyTold_23 rfl (lv_at hl 0 rfl) ?_
        refine lv_aload_n hx hb dX9_onlyTold_24 rfl (lv_at hl 1 rfl) ?_
        refine va_get (D := D) (ci := 9) (v := .ref ze) (C := RX9) (T := TX9) (N := 26) hx hb hts hiX9 hown hK hP 0 rfl rfl 13 (by decide) (hts (.fieldLink RX9 38 "LedgeLeapsModel" "fewest" "[I") (List.mem_of_getElem? (i := 3) rfl)) (fun _ h9 => h9) rfl dX9_onlyTold_25 ?_
        refine lv_iload_n hx hb dX9_onlyTold_28 rfl (lv_at hl 0 rfl) ?_
        refine va_iald hx hb hK hP 6 0 rfl rfl (vp_ix (e := i) (rfl) (by omega) (by decide)) dX9_onlyTold_29 ?_
        refine top_i (y := (u_6 i)) (ld_ix (f := u_6) (x := (nI i)) (e := i) (n := 100) (rfl) (by omega) (by decide)) ?_
        refine lv_iconst (v := (-1)) hx hb dX9_onlyTold_30 (by decide) ?_
        refine lv_icmp_eq (tgt := 38) hx hb dX9_onlyTold_31 (by decide) (fun c_31 => ?_) (fun c_31 => ?_)
        · refine lv_iconst (v := 0) hx hb dX9_onlyTold_38 (by decide) ?_
          refine va_zast hx hb hK hP hD hS 7 1 rfl rfl (vp_ix (e := i) (rfl) (by omega) (by decide)) dX9_onlyTold_39 (fun H locs hP hD hS => ?_)
          rw [cl_ix (x := (nI i)) (e := i) (n := 100) (rfl) (by omega) (by decide)] at hP hD
          have hP : va_P D vwCl (oX9 mo zs zv vn zl zk zt vl vh zg zi zw (nI (nS S)) zo ze vc vr vt vo (bI vm) vp va vb vd vq zd vz :: aI cI zs 28 gs :: aI cI zg 200 gg :: aI cI zi 100 gi :: aI cI zw 100 gw :: aI cI zo 10000 go :: aI cI ze 100 u_6 :: aZ cZ zd 100 (upd d9 i 0) :: X) H := hP
          have hD : va_D A (oX9 mo zs zv vn zl zk zt vl vh zg zi zw (nI (nS S)) zo ze vc vr vt vo (bI vm) vp va vb vd vq zd vz :: aI cI zs 28 gs :: aI cI zg 200 gg :: aI cI zi 100 gi :: aI cI zw 100 gw :: aI cI zo 10000 go :: aI cI ze 100 u_6 :: aZ cZ zd 100 (upd d9 i 0) :: X) := hD
          refine lv_iinc (v := (nI (i + 1))) (lv' := [(2, .int (nI (i + 1))), (0, .ref mo), (1, .int xk)]) hx hb dX9_onlyTold_40 hl (k := 0) rfl (nI_1 i) (by decide) rfl (fun ls hl => ?_)
          refine lv_goto (tgt := 11) hx hb dX9_onlyTold_43 (by decide) ?_
          exact ih_11 (i + 1) (upd d9 i 0) (by omega) (by omega) (fun b hb => by by_cases z : b = i; (rw [z]; exact pk_us.trans (by unfold rcS; rw [← hq_6 i hi2, decide_eq_true c_31]; rfl)); (rw [pk_un z]; exact hd9 b (by omega))) _ _ (hP) (hD) hS _ (lv_sub hl [0, 1, 2] rfl)
        · refine lv_iconst (v := 1) hx hb dX9_onlyTold_34 (by decide) ?_
          refine lv_goto (tgt := 39) hx hb dX9_onlyTold_35 (by decide) ?_
          refine va_zast hx hb hK hP hD hS 7 1 rfl rfl (vp_ix (e := i) (rfl) (by omega) (by decide)) dX9_onlyTold_39 (fun H locs hP hD hS => ?_)
          rw [cl_ix (x := (nI i)) (e := i) (n := 100) (rfl) (by omega) (by decide)] at hP hD
          have hP : va_P D vwCl (oX9 mo zs zv vn zl zk zt vl vh zg zi zw (nI (nS S)) zo ze vc vr vt vo (bI vm) vp va vb vd vq zd vz :: aI cI zs 28 gs :: aI cI zg 200 gg :: aI cI zi 100 gi :: aI cI zw 100 gw :: aI cI zo 10000 go :: aI cI ze 100 u_6 :: aZ cZ zd 100 (upd d9 i 1) :: X) H := hP
          have hD : va_D A (oX9 mo zs zv vn zl zk zt vl vh zg zi zw (nI (nS S)) zo ze vc vr vt vo (bI vm) vp va vb vd vq zd vz :: aI cI zs 28 gs :: aI cI zg 200 gg :: aI cI zi 100 gi :: aI cI zw 100 gw :: aI cI zo 10000 go :: aI cI ze 100 u_6 :: aZ cZ zd 100 (upd d9 i 1) :: X) := hD
          refine lv_iinc (v := (nI (i + 1))) (lv' := [(2, .int (nI (i + 1))), (0, .ref mo), (1, .int xk)]) hx hb dX9_onlyTold_40 hl (k := 0) rfl (nI_1 i) (by decide) rfl (fun ls hl => ?_)
          refine lv_goto (tgt := 11) hx hb dX9_onlyTold_43 (by decide) ?_
          exact ih_11 (i + 1) (upd d9 i 1) (by omega) (by omega) (fun b hb => by by_cases z : b = i; (rw [z]; exact pk_us.trans (by unfold rcS; rw [← hq_6 i hi2, decide_eq_false c_31]; rfl)); (rw [pk_un z]; exact hd9 b (by omega))) _ _ (hP) (hD) hS _ (lv_sub hl [0, 1, 2] rfl)
  exact loop_11 _ 0 gd (Nat.lt_succ_self _) (Nat.zero_le _) (fun b hb => absurd hb (Nat.not_lt_zero _)) _ _ hP hD hS _ (lv_sub hl [0, 1, 2] rfl)
set_option maxHeartbeats 4000000 in
set_option maxRecDepth 100000 in
theorem n_shareTold (l : Launch) (D : va_G) (cI cZ cW cJ : ClassId) (A : Nat → Prop) (X : va_W) (mo zs zv zl zk zt zg zi zw zo ze zd : Nat) (vn vl vh vc vr vt vo vp va vb vd vq : Int32) (vm : Bool) (vz : Int64) (gs gg gi gw go ge : Nat → Int32) (S : KS) (hS0 : AbsM S gs) (hWf : Wf S) (hM : MapM S gg gi gw) (hR : RchM S go) : Met l yX9_shareTold wsX9_shareTold ({ frames := 3, cells := 0, slots := 0, locals := 71 }) (va_Pc [.ref mo] (wd D (tyL cI cZ cW cJ) A (oX9 mo zs zv vn zl zk zt vl vh zg zi zw (nI (nS S)) zo ze vc vr vt vo (bI vm) vp va vb vd vq zd vz :: aI cI zs 28 gs :: aI cI zg 200 gg :: aI cI zi 100 gi :: aI cI zw 100 gw :: aI cI zo 10000 go :: aI cI ze 100 ge :: X))) (va_Qd (fun (r : UInt64) (u : Nat → Int32) => r = shareS S ∧ True) (fun (u : Nat → Int32) t => wq D A (oX9 mo zs zv vn zl zk zt vl vh zg zi zw (nI (nS S)) zo ze vc vr vt vo (bI vm) vp va vb vd vq zd vz :: aI cI zs 28 gs :: aI cI zg 200 gg :: aI cI zi 100 gi :: aI cI zw 100 gw :: aI cI zo 10000 go :: aI cI ze 100 u :: X) t) A) 0 0 A := by
  refine Met.ofW (cc := cX9_shareTold) (maxL := 1) (ret := (some .double)) (by decide) rfl ?_
  intro p e s m args below meth c s₁ B hml hv
  obtain ⟨rfl, hsz9, hP, hK, hD, hN⟩ := hv
  have hx := B.exec
  have hb := B.bytes
  have hr := B.returns
  have hts := atoms_spec (ws := wsX9_shareTold) B.pre
  have hown : s.vm.findClass RX9 = some m.cls := findClass_of_methodNamed B.named
  have hlocks := B.notSynchronized
  have CF : CallFix p m c cX9_shareTold 1 s _ wsX9_shareTold RX9 := ⟨hx, hb, hml, hown, hts⟩
  have hA : ∀ q : Nat, s.heap.size ≤ q → A q := hsz9
  have hS : va_S A s.heap s.heap [] := va_S.rf
  have hiX9 : ∀ w ∈ u_ws RX9 TX9 26, w ∈ wsX9_shareTold := fun _ h => List.mem_cons_of_mem _ (List.mem_append_right _ (h))
  have hl := lv_entry ([.ref mo]) (n := 1) (Nat.le_of_ble_eq_true rfl)
  rw [lg_entry_eq]
  generalize (lg_sl ([.ref mo]) ++ List.replicate (1 - (lg_sl ([.ref mo])).length) Slot.unset).toArray = ls at hl ⊢
  have hl : lv_has ls 1 [(0, .ref mo)] := hl
  show W p l e ({ frames := 3, cells := 0, slots := 0, locals := 71 } : Room) s m (([.ref mo] : List Value).toArray) below meth c s.heap [] 0 0 (MQ below (va_Qd (fun (r : UInt64) (u : Nat → Int32) => r = shareS S ∧ True) (fun (u : Nat → Int32) t => wq D A (oX9 mo zs zv vn zl zk zt vl vh zg zi zw (nI (nS S)) zo ze vc vr vt vo (bI vm) vp va vb vd vq zd vz :: aI cI zs 28 gs :: aI cI zg 200 gg :: aI cI zi 100 gi :: aI cI zw 100 gw :: aI cI zo 10000 go :: aI cI ze 100 u :: X) t) A) (([.ref mo] : List Value).toArray) s 0 0 A) (F0 m 0 ls [])
  refine lv_aload_n hx hb dX9_shareTold_0 rfl (lv_at hl 0 rfl) ?_
  refine va_get (D := D) (ci := 9) (v := .int (nI (nS S))) (C := RX9) (T := TX9) (N := 26) hx hb hts hiX9 hown hK hP 0 rfl rfl 11 (by decide) (hts (.fieldLink RX9 66 "LedgeLeapsModel" "ledges" "I") (List.mem_of_getElem? (i := 1) rfl)) (fun _ h9 => h9) rfl dX9_shareTold_1 ?_
  refine lv_aload_n hx hb dX9_shareTold_4 rfl (lv_at hl 0 rfl) ?_
  refine cV_i CF hK hN hA hS (cut_of 7 [0, 1, 2, 3, 4, 5, 6] hP hD rfl rfl rfl) (n_awayFromRunner l D cI cZ cW cJ A (X) mo zs zv zl zk zt zg zi zw zo ze zd vn vl vh vc vr vt vo vp va vb vd vq vm vz gs gg gi gw go ge S hS0 hWf hM hR) (cwV 0 hts gX9_shareTold_X9_awayFromRunner rfl rfl rfl (by decide +kernel) ⟨Nat.le_of_ble_eq_true rfl, Nat.le_of_ble_eq_true rfl⟩) (As := []) (rest := [.int (nI (nS S))]) (ci := 9) (q0 := 0) rfl rfl rfl hl.1 rfl (Nat.le_of_ble_eq_true rfl) dX9_shareTold_5 ⟨Nat.le_of_ble_eq_true rfl, Nat.le_of_ble_eq_true rfl⟩ (fun r_5 u_5 H locs hq hP hD hS => ?_)
  have hq_5 : r_5 = nI (nS S) - nI (cntB (rcS S 3) (nS S)) ∧ ∀ b, b < nS S → u_5 b = dS S 3 (owS S) b := hq
  have hr_5 : r_5 = nI (nS S) - nI (cntB (rcS S 3) (nS S)) := hq_5.1
  subst hr_5
  have hP : va_P D vwCl (oX9 mo zs zv vn zl zk zt vl vh zg zi zw (nI (nS S)) zo ze vc vr vt vo (bI vm) vp va vb vd vq zd vz :: aI cI zs 28 gs :: aI cI zg 200 gg :: aI cI zi 100 gi :: aI cI zw 100 gw :: aI cI zo 10000 go :: aI cI ze 100 u_5 :: X) H := pm_P hP 7 [0, 1, 2, 3, 4, 5, 6] rfl
  have hD : va_D A (oX9 mo zs zv vn zl zk zt vl vh zg zi zw (nI (nS S)) zo ze vc vr vt vo (bI vm) vp va vb vd vq zd vz :: aI cI zs 28 gs :: aI cI zg 200 gg :: aI cI zi 100 gi :: aI cI zw 100 gw :: aI cI zo 10000 go :: aI cI ze 100 u_5 :: X) := pm_D hD 7 [0, 1, 2, 3, 4, 5, 6] rfl rfl rfl
  refine lv_isub hx hb dX9_shareTold_8 ?_
  refine top_i (y := (nI (cntB (rcS S 3) (nS S)))) share_M ?_
  refine lv_i2d hx hb dX9_shareTold_9 ?_
  refine lv_aload_n hx hb dX9_shareTold_10 rfl (lv_at hl 0 rfl) ?_
  refine va_get (D := D) (ci := 9) (v := .int (nI (nS S))) (C := RX9) (T := TX9) (N := 26) hx hb hts hiX9 hown hK hP 0 rfl rfl 11 (by decide) (hts (.fieldLink RX9 66 "LedgeLeapsModel" "ledges" "I") (List.mem_of_getElem? (i := 1) rfl)) (fun _ h9 => h9) rfl dX9_shareTold_11 ?_
  refine lv_i2d hx hb dX9_shareTold_14 ?_
  refine lv_ddiv hx hb dX9_shareTold_15 (share_nn (by have := (owS_lt hWf).1; omega) (nL_le _) (cntB_le _ _)) ?_
  exact W.dret (v := (FP.ddiv (FP.i2d (nI (cntB (rcS S 3) (nS S)))) (FP.i2d (nI (nS S))))) hx hb hr (fun t9 ht9 hW9 => ⟨⟨(FP.ddiv (FP.i2d (nI (cntB (rcS S 3) (nS S)))) (FP.i2d (nI (nS S)))), u_5, rfl, ⟨rfl, trivial⟩, by rw [ht9]; exact hP, hD⟩, hS.F ht9⟩) hS.2.2 dX9_shareTold_16
set_option maxHeartbeats 4000000 in
set_option maxRecDepth 100000 in
theorem n_countTold (l : Launch) (D : va_G) (cI cZ cW cJ : ClassId) (A : Nat → Prop) (X : va_W) (mo zs zv zl zk zt zg zi zw zo ze zd : Nat) (vl vh vc vr vt vo vp va vb vd vq : Int32) (vm : Bool) (vz : Int64) (hn : Nat) (gs gg gi gw go ge : Nat → Int32) (S : KS) (kk : Nat) (hS0 : AbsM S gs) (hWf : Wf S) (hM : MapM S gg gi gw) (hR : RchM S go) (hkk : kk < 10) : Met l yX9_countTold wsX9_countTold ({ frames := 3, cells := 0, slots := 0, locals := 71 }) (va_Pc [.ref mo, .int (nI kk)] (wd D (tyL cI cZ cW cJ) A (oX9 mo zs zv (nI hn) zl zk zt vl vh zg zi zw (nI (nS S)) zo ze vc vr vt vo (bI vm) vp va vb vd vq zd vz :: aI cI zs 28 gs :: aI cI zg 200 gg :: aI cI zi 100 gi :: aI cI zw 100 gw :: aI cI zo 10000 go :: aI cI ze 100 ge :: X))) (va_Qi (fun (r : Int32) (u : Nat → Int32) => r = countS S hn kk ∧ True) (fun (u : Nat → Int32) t => wq D A (oX9 mo zs zv (nI hn) zl zk zt vl vh zg zi zw (nI (nS S)) zo ze vc vr vt vo (bI vm) vp va vb vd vq zd vz :: aI cI zs 28 gs :: aI cI zg 200 gg :: aI cI zi 100 gi :: aI cI zw 100 gw :: aI cI zo 10000 go :: aI cI ze 100 u :: X) t) A) 0 0 A := by
  refine Met.ofW (cc := cX9_countTold) (maxL := 2) (ret := (some .int)) (by decide) rfl ?_
  intro p e s m args below meth c s₁ B hml hv
  obtain ⟨rfl, hsz9, hP, hK, hD, hN⟩ := hv
  have hx := B.exec
  have hb := B.bytes
  have hr := B.returns
  have hts := atoms_spec (ws := wsX9_countTold) B.pre
  have hown : s.vm.findClass RX9 = some m.cls := findClass_of_methodNamed B.named
  have hlocks := B.notSynchronized
  have CF : CallFix p m c cX9_countTold 2 s _ wsX9_countTold RX9 := ⟨hx, hb, hml, hown, hts⟩
  have hA : ∀ q : Nat, s.heap.size ≤ q → A q := hsz9
  have hS : va_S A s.heap s.heap [] := va_S.rf
  have hiX9 : ∀ w ∈ u_ws RX9 TX9 26, w ∈ wsX9_countTold := fun _ h => List.mem_cons_of_mem _ (List.mem_append_right _ (h))
  have hl := lv_entry ([.ref mo, .int (nI kk)]) (n := 2) (Nat.le_of_ble_eq_true rfl)
  rw [lg_entry_eq]
  generalize (lg_sl ([.ref mo, .int (nI kk)]) ++ List.replicate (2 - (lg_sl ([.ref mo, .int (nI kk)])).length) Slot.unset).toArray = ls at hl ⊢
  have hl : lv_has ls 2 [(0, .ref mo), (1, .int (nI kk))] := hl
  show W p l e ({ frames := 3, cells := 0, slots := 0, locals := 71 } : Room) s m (([.ref mo, .int (nI kk)] : List Value).toArray) below meth c s.heap [] 0 0 (MQ below (va_Qi (fun (r : Int32) (u : Nat → Int32) => r = countS S hn kk ∧ True) (fun (u : Nat → Int32) t => wq D A (oX9 mo zs zv (nI hn) zl zk zt vl vh zg zi zw (nI (nS S)) zo ze vc vr vt vo (bI vm) vp va vb vd vq zd vz :: aI cI zs 28 gs :: aI cI zg 200 gg :: aI cI zi 100 gi :: aI cI zw 100 gw :: aI cI zo 10000 go :: aI cI ze 100 u :: X) t) A) (([.ref mo, .int (nI kk)] : List Value).toArray) s 0 0 A) (F0 m 0 ls [])
  refine lv_iload_n hx hb dX9_countTold_0 rfl (lv_at hl 1 rfl) ?_
  rcases (show kk = 0 ∨ kk = 1 ∨ kk = 2 ∨ kk = 3 ∨ kk = 4 ∨ kk = 5 ∨ kk = 6 ∨ kk = 7 ∨ kk = 8 ∨ kk = 9 by omega) with rfl | rfl | rfl | rfl | rfl | rfl | rfl | rfl | rfl | rfl
  · refine lv_tableIn (tgt := 52) hx hb dX9_countTold_1 (by decide) (by decide) rfl (by decide) ?_
    refine lv_aload_n hx hb dX9_countTold_52 rfl (lv_at hl 0 rfl) ?_
    refine cV_i CF hK hN hA hS (cut_of 7 [0, 1, 2, 3, 4, 5, 6] hP hD rfl rfl rfl) (n_blocks l D cI cZ cW cJ A (aI cI zg 200 gg :: aI cI zi 100 gi :: aI cI zw 100 gw :: aI cI zo 10000 go :: aI cI ze 100 ge :: X) mo zs zv zl zk zt zg zi zw zo ze zd (nI hn) vl vh (nI (nS S)) vc vr vt vo vp va vb vd vq vm vz gs S hS0) (cwV 0 hts gX9_countTold_X9_blocks rfl rfl rfl (by decide +kernel) ⟨Nat.le_of_ble_eq_true rfl, Nat.le_of_ble_eq_true rfl⟩) (As := []) (rest := []) (ci := 9) (q0 := 0) rfl rfl rfl hl.1 rfl (Nat.le_of_ble_eq_true rfl) dX9_countTold_53 ⟨Nat.le_of_ble_eq_true rfl, Nat.le_of_ble_eq_true rfl⟩ (fun r_53 _ H locs hq hP hD hS => ?_)
    have hq : r_53 = nI (blkN S.1) := hq
    subst hq
    have hP : va_P D vwCl (oX9 mo zs zv (nI hn) zl zk zt vl vh zg zi zw (nI (nS S)) zo ze vc vr vt vo (bI vm) vp va vb vd vq zd vz :: aI cI zs 28 gs :: aI cI zg 200 gg :: aI cI zi 100 gi :: aI cI zw 100 gw :: aI cI zo 10000 go :: aI cI ze 100 ge :: X) H := pm_P hP 7 [0, 1, 2, 3, 4, 5, 6] rfl
    have hD : va_D A (oX9 mo zs zv (nI hn) zl zk zt vl vh zg zi zw (nI (nS S)) zo ze vc vr vt vo (bI vm) vp va vb vd vq zd vz :: aI cI zs 28 gs :: aI cI zg 200 gg :: aI cI zi 100 gi :: aI cI zw 100 gw :: aI cI zo 10000 go :: aI cI ze 100 ge :: X) := pm_D hD 7 [0, 1, 2, 3, 4, 5, 6] rfl rfl rfl
    exact W.iret (v := (nI (blkN S.1))) hx hb hr (fun t9 ht9 hW9 => ⟨⟨(nI (blkN S.1)), ge, rfl, ⟨rfl, trivial⟩, by rw [ht9]; exact hP, hD⟩, hS.F ht9⟩) hS.2.2 dX9_countTold_56
  · refine lv_tableIn (tgt := 57) hx hb dX9_countTold_1 (by decide) (by decide) rfl (by decide) ?_
    refine lv_aload_n hx hb dX9_countTold_57 rfl (lv_at hl 0 rfl) ?_
    refine va_get (D := D) (ci := 9) (v := .int (nI (nS S))) (C := RX9) (T := TX9) (N := 26) hx hb hts hiX9 hown hK hP 0 rfl rfl 11 (by decide) (hts (.fieldLink RX9 66 "LedgeLeapsModel" "ledges" "I") (List.mem_of_getElem? (i := 1) rfl)) (fun _ h9 => h9) rfl dX9_countTold_58 ?_
    exact W.iret (v := (nI (nS S))) hx hb hr (fun t9 ht9 hW9 => ⟨⟨(nI (nS S)), ge, rfl, ⟨rfl, trivial⟩, by rw [ht9]; exact hP, hD⟩, hS.F ht9⟩) hS.2.2 dX9_countTold_61
  · refine lv_tableIn (tgt := 62) hx hb dX9_countTold_1 (by decide) (by decide) rfl (by decide) ?_
    refine lv_aload_n hx hb dX9_countTold_62 rfl (lv_at hl 0 rfl) ?_
    refine va_get (D := D) (ci := 9) (v := .ref zs) (C := RX9) (T := TX9) (N := 26) hx hb hts hiX9 hown hK hP 0 rfl rfl 0 (by decide) (hts (.fieldLink RX9 7 "LedgeLeapsModel" "s" "[I") (List.mem_of_getElem? (i := 2) rfl)) (fun _ h9 => h9) rfl dX9_countTold_63 ?_
    refine lv_bipush (v := 23) hx hb dX9_countTold_66 (by decide) ?_
    refine lv_iload_n hx hb dX9_countTold_68 rfl (lv_at hl 1 rfl) ?_
    refine lv_iadd hx hb dX9_countTold_69 ?_
    refine lv_iconst (v := 2) hx hb dX9_countTold_70 (by decide) ?_
    refine lv_isub hx hb dX9_countTold_71 ?_
    refine va_iald hx hb hK hP 1 0 rfl rfl (vp_ix (e := 23) (by decide) (by decide) (by decide)) dX9_countTold_72 ?_
    refine top_i (y := (gs 23)) (ld_ix (f := gs) (x := ((23 + (nI 2)) - 2)) (e := 23) (n := 28) (by decide) (by decide) (by decide)) ?_
    refine top_i (y := (nI S.2.2.1.1)) hS0.2.2.1.1 ?_
    exact W.iret (v := (nI S.2.2.1.1)) hx hb hr (fun t9 ht9 hW9 => ⟨⟨(nI S.2.2.1.1), ge, rfl, ⟨rfl, trivial⟩, by rw [ht9]; exact hP, hD⟩, hS.F ht9⟩) hS.2.2 dX9_countTold_73
  · refine lv_tableIn (tgt := 62) hx hb dX9_countTold_1 (by decide) (by decide) rfl (by decide) ?_
    refine lv_aload_n hx hb dX9_countTold_62 rfl (lv_at hl 0 rfl) ?_
    refine va_get (D := D) (ci := 9) (v := .ref zs) (C := RX9) (T := TX9) (N := 26) hx hb hts hiX9 hown hK hP 0 rfl rfl 0 (by decide) (hts (.fieldLink RX9 7 "LedgeLeapsModel" "s" "[I") (List.mem_of_getElem? (i := 2) rfl)) (fun _ h9 => h9) rfl dX9_countTold_63 ?_
    refine lv_bipush (v := 23) hx hb dX9_countTold_66 (by decide) ?_
    refine lv_iload_n hx hb dX9_countTold_68 rfl (lv_at hl 1 rfl) ?_
    refine lv_iadd hx hb dX9_countTold_69 ?_
    refine lv_iconst (v := 2) hx hb dX9_countTold_70 (by decide) ?_
    refine lv_isub hx hb dX9_countTold_71 ?_
    refine va_iald hx hb hK hP 1 0 rfl rfl (vp_ix (e := 24) (by decide) (by decide) (by decide)) dX9_countTold_72 ?_
    refine top_i (y := (gs 24)) (ld_ix (f := gs) (x := ((23 + (nI 3)) - 2)) (e := 24) (n := 28) (by decide) (by decide) (by decide)) ?_
    refine top_i (y := (nI S.2.2.1.2)) hS0.2.2.1.2 ?_
    exact W.iret (v := (nI S.2.2.1.2)) hx hb hr (fun t9 ht9 hW9 => ⟨⟨(nI S.2.2.1.2), ge, rfl, ⟨rfl, trivial⟩, by rw [ht9]; exact hP, hD⟩, hS.F ht9⟩) hS.2.2 dX9_countTold_73
  · refine lv_tableIn (tgt := 74) hx hb dX9_countTold_1 (by decide) (by decide) rfl (by decide) ?_
    refine lv_aload_n hx hb dX9_countTold_74 rfl (lv_at hl 0 rfl) ?_
    refine cV_i CF hK hN hA hS (cut_of 7 [0, 1, 2, 3, 4, 5, 6] hP hD rfl rfl rfl) (n_ownLedge l D cI cZ cW cJ A (aI cI zi 100 gi :: aI cI zw 100 gw :: aI cI zo 10000 go :: aI cI ze 100 ge :: X) mo zs zv zl zk zt zg zi zw zo ze zd (nI hn) vl vh (nI (nS S)) vc vr vt vo vp va vb vd vq vm vz gs gg S hS0 hWf) (cwV 0 hts gX9_countTold_X9_ownLedge rfl rfl rfl (by decide +kernel) ⟨Nat.le_of_ble_eq_true rfl, Nat.le_of_ble_eq_true rfl⟩) (As := []) (rest := []) (ci := 9) (q0 := 0) rfl rfl rfl hl.1 rfl (Nat.le_of_ble_eq_true rfl) dX9_countTold_75 ⟨Nat.le_of_ble_eq_true rfl, Nat.le_of_ble_eq_true rfl⟩ (fun r_75 _ H locs hq hP hD hS => ?_)
    have hq : r_75 = gg (20 * S.2.2.1.2 + S.2.2.1.1) := hq
    subst hq
    have hP : va_P D vwCl (oX9 mo zs zv (nI hn) zl zk zt vl vh zg zi zw (nI (nS S)) zo ze vc vr vt vo (bI vm) vp va vb vd vq zd vz :: aI cI zs 28 gs :: aI cI zg 200 gg :: aI cI zi 100 gi :: aI cI zw 100 gw :: aI cI zo 10000 go :: aI cI ze 100 ge :: X) H := pm_P hP 7 [0, 1, 2, 3, 4, 5, 6] rfl
    have hD : va_D A (oX9 mo zs zv (nI hn) zl zk zt vl vh zg zi zw (nI (nS S)) zo ze vc vr vt vo (bI vm) vp va vb vd vq zd vz :: aI cI zs 28 gs :: aI cI zg 200 gg :: aI cI zi 100 gi :: aI cI zw 100 gw :: aI cI zo 10000 go :: aI cI ze 100 ge :: X) := pm_D hD 7 [0, 1, 2, 3, 4, 5, 6] rfl rfl rfl
    refine top_i (y := (nI (owS S))) (own_M hM hWf) ?_
    exact W.iret (v := (nI (owS S))) hx hb hr (fun t9 ht9 hW9 => ⟨⟨(nI (owS S)), ge, rfl, ⟨rfl, trivial⟩, by rw [ht9]; exact hP, hD⟩, hS.F ht9⟩) hS.2.2 dX9_countTold_78
  · refine lv_tableIn (tgt := 79) hx hb dX9_countTold_1 (by decide) (by decide) rfl (by decide) ?_
    refine lv_aload_n hx hb dX9_countTold_79 rfl (lv_at hl 0 rfl) ?_
    refine va_get (D := D) (ci := 9) (v := .ref zs) (C := RX9) (T := TX9) (N := 26) hx hb hts hiX9 hown hK hP 0 rfl rfl 0 (by decide) (hts (.fieldLink RX9 7 "LedgeLeapsModel" "s" "[I") (List.mem_of_getElem? (i := 2) rfl)) (fun _ h9 => h9) rfl dX9_countTold_80 ?_
    refine lv_bipush (v := 25) hx hb dX9_countTold_83 (by decide) ?_
    refine lv_iload_n hx hb dX9_countTold_85 rfl (lv_at hl 1 rfl) ?_
    refine lv_iadd hx hb dX9_countTold_86 ?_
    refine lv_iconst (v := 5) hx hb dX9_countTold_87 (by decide) ?_
    refine lv_isub hx hb dX9_countTold_88 ?_
    refine va_iald hx hb hK hP 1 0 rfl rfl (vp_ix (e := 25) (by decide) (by decide) (by decide)) dX9_countTold_89 ?_
    refine top_i (y := (gs 25)) (ld_ix (f := gs) (x := ((25 + (nI 5)) - 5)) (e := 25) (n := 28) (by decide) (by decide) (by decide)) ?_
    refine top_i (y := S.2.2.2.1) hS0.2.2.2.1 ?_
    exact W.iret (v := S.2.2.2.1) hx hb hr (fun t9 ht9 hW9 => ⟨⟨S.2.2.2.1, ge, rfl, ⟨rfl, trivial⟩, by rw [ht9]; exact hP, hD⟩, hS.F ht9⟩) hS.2.2 dX9_countTold_90
  · refine lv_tableIn (tgt := 79) hx hb dX9_countTold_1 (by decide) (by decide) rfl (by decide) ?_
    refine lv_aload_n hx hb dX9_countTold_79 rfl (lv_at hl 0 rfl) ?_
    refine va_get (D := D) (ci := 9) (v := .ref zs) (C := RX9) (T := TX9) (N := 26) hx hb hts hiX9 hown hK hP 0 rfl rfl 0 (by decide) (hts (.fieldLink RX9 7 "LedgeLeapsModel" "s" "[I") (List.mem_of_getElem? (i := 2) rfl)) (fun _ h9 => h9) rfl dX9_countTold_80 ?_
    refine lv_bipush (v := 25) hx hb dX9_countTold_83 (by decide) ?_
    refine lv_iload_n hx hb dX9_countTold_85 rfl (lv_at hl 1 rfl) ?_
    refine lv_iadd hx hb dX9_countTold_86 ?_
    refine lv_iconst (v := 5) hx hb dX9_countTold_87 (by decide) ?_
    refine lv_isub hx hb dX9_countTold_88 ?_
    refine va_iald hx hb hK hP 1 0 rfl rfl (vp_ix (e := 26) (by decide) (by decide) (by decide)) dX9_countTold_89 ?_
    refine top_i (y := (gs 26)) (ld_ix (f := gs) (x := ((25 + (nI 6)) - 5)) (e := 26) (n := 28) (by decide) (by decide) (by decide)) ?_
    refine top_i (y := S.2.2.2.2.1) hS0.2.2.2.2.1 ?_
    exact W.iret (v := S.2.2.2.2.1) hx hb hr (fun t9 ht9 hW9 => ⟨⟨S.2.2.2.2.1, ge, rfl, ⟨rfl, trivial⟩, by rw [ht9]; exact hP, hD⟩, hS.F ht9⟩) hS.2.2 dX9_countTold_90
  · refine lv_tableIn (tgt := 79) hx hb dX9_countTold_1 (by decide) (by decide) rfl (by decide) ?_
    refine lv_aload_n hx hb dX9_countTold_79 rfl (lv_at hl 0 rfl) ?_
    refine va_get (D := D) (ci := 9) (v := .ref zs) (C := RX9) (T := TX9) (N := 26) hx hb hts hiX9 hown hK hP 0 rfl rfl 0 (by decide) (hts (.fieldLink RX9 7 "LedgeLeapsModel" "s" "[I") (List.mem_of_getElem? (i := 2) rfl)) (fun _ h9 => h9) rfl dX9_countTold_80 ?_
    refine lv_bipush (v := 25) hx hb dX9_countTold_83 (by decide) ?_
    refine lv_iload_n hx hb dX9_countTold_85 rfl (lv_at hl 1 rfl) ?_
    refine lv_iadd hx hb dX9_countTold_86 ?_
    refine lv_iconst (v := 5) hx hb dX9_countTold_87 (by decide) ?_
    refine lv_isub hx hb dX9_countTold_88 ?_
    refine va_iald hx hb hK hP 1 0 rfl rfl (vp_ix (e := 27) (by decide) (by decide) (by decide)) dX9_countTold_89 ?_
    refine top_i (y := (gs 27)) (ld_ix (f := gs) (x := ((25 + (nI 7)) - 5)) (e := 27) (n := 28) (by decide) (by decide) (by decide)) ?_
    refine top_i (y := S.2.2.2.2.2) hS0.2.2.2.2.2 ?_
    exact W.iret (v := S.2.2.2.2.2) hx hb hr (fun t9 ht9 hW9 => ⟨⟨S.2.2.2.2.2, ge, rfl, ⟨rfl, trivial⟩, by rw [ht9]; exact hP, hD⟩, hS.F ht9⟩) hS.2.2 dX9_countTold_90
  · refine lv_tableIn (tgt := 91) hx hb dX9_countTold_1 (by decide) (by decide) rfl (by decide) ?_
    refine lv_aload_n hx hb dX9_countTold_91 rfl (lv_at hl 0 rfl) ?_
    refine cV_i CF hK hN hA hS (cut_of 7 [0, 1, 2, 3, 4, 5, 6] hP hD rfl rfl rfl) (n_awayFromRunner l D cI cZ cW cJ A (X) mo zs zv zl zk zt zg zi zw zo ze zd (nI hn) vl vh vc vr vt vo vp va vb vd vq vm vz gs gg gi gw go ge S hS0 hWf hM hR) (cwV 0 hts gX9_countTold_X9_awayFromRunner rfl rfl rfl (by decide +kernel) ⟨Nat.le_of_ble_eq_true rfl, Nat.le_of_ble_eq_true rfl⟩) (As := []) (rest := []) (ci := 9) (q0 := 0) rfl rfl rfl hl.1 rfl (Nat.le_of_ble_eq_true rfl) dX9_countTold_92 ⟨Nat.le_of_ble_eq_true rfl, Nat.le_of_ble_eq_true rfl⟩ (fun r_92 u_92 H locs hq hP hD hS => ?_)
    have hq_92 : r_92 = nI (nS S) - nI (cntB (rcS S 3) (nS S)) ∧ ∀ b, b < nS S → u_92 b = dS S 3 (owS S) b := hq
    have hr_92 : r_92 = nI (nS S) - nI (cntB (rcS S 3) (nS S)) := hq_92.1
    subst hr_92
    have hP : va_P D vwCl (oX9 mo zs zv (nI hn) zl zk zt vl vh zg zi zw (nI (nS S)) zo ze vc vr vt vo (bI vm) vp va vb vd vq zd vz :: aI cI zs 28 gs :: aI cI zg 200 gg :: aI cI zi 100 gi :: aI cI zw 100 gw :: aI cI zo 10000 go :: aI cI ze 100 u_92 :: X) H := pm_P hP 7 [0, 1, 2, 3, 4, 5, 6] rfl
    have hD : va_D A (oX9 mo zs zv (nI hn) zl zk zt vl vh zg zi zw (nI (nS S)) zo ze vc vr vt vo (bI vm) vp va vb vd vq zd vz :: aI cI zs 28 gs :: aI cI zg 200 gg :: aI cI zi 100 gi :: aI cI zw 100 gw :: aI cI zo 10000 go :: aI cI ze 100 u_92 :: X) := pm_D hD 7 [0, 1, 2, 3, 4, 5, 6] rfl rfl rfl
    exact W.iret (v := (nI (nS S) - nI (cntB (rcS S 3) (nS S)))) hx hb hr (fun t9 ht9 hW9 => ⟨⟨(nI (nS S) - nI (cntB (rcS S 3) (nS S))), u_92, rfl, ⟨rfl, trivial⟩, by rw [ht9]; exact hP, hD⟩, hS.F ht9⟩) hS.2.2 dX9_countTold_95
  · refine lv_tableOut (tgt := 96) hx hb dX9_countTold_1 (by decide) (by decide) ?_
    refine lv_aload_n hx hb dX9_countTold_96 rfl (lv_at hl 0 rfl) ?_
    refine va_get (D := D) (ci := 9) (v := .int (nI hn)) (C := RX9) (T := TX9) (N := 26) hx hb hts hiX9 hown hK hP 0 rfl rfl 2 (by decide) (hts (.fieldLink RX9 59 "LedgeLeapsModel" "savedMany" "I") (List.mem_of_getElem? (i := 3) rfl)) (fun _ h9 => h9) rfl dX9_countTold_97 ?_
    exact W.iret (v := (nI hn)) hx hb hr (fun t9 ht9 hW9 => ⟨⟨(nI hn), ge, rfl, ⟨rfl, trivial⟩, by rw [ht9]; exact hP, hD⟩, hS.F ht9⟩) hS.2.2 dX9_countTold_100
