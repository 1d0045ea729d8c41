theorem shareS_ok {S : KS} (h : Wf S) : bosOK 10 (shareS S) = true := (share_ok (cntB_pos (own_rch h 3) (owS_lt h).1) (cntB_le _ _) (nL_le _)).2
set_option maxHeartbeats 4000000 in
set_option maxRecDepth 100000 in
theorem n_digest (l : Launch) (D : va_G) (cI cZ cW cJ : ClassId) (A : Nat → Prop) (X : va_W) (mo zs zv zl zk zt zg zi zw zo ze zd : Nat) (vh vg vc vr vt vo vp va vb vd vq : Int32) (vm : Bool) (vz : Int64) (hn tn : Nat) (gs gg gi gw go ge gd gk gt : Nat → Int32) (S : KS) (tk : Nat → Bool) (hS0 : AbsM S gs) (hWf : Wf S) (htn : tn ≤ 60) (hgk : ∀ i, i < 2 → gk i = bI (tk i)) : Met l yX9_digest wsX9_digest ({ frames := 8, cells := 0, slots := 0, locals := 186 }) (va_Pc [.ref mo] (wd D (tyL cI cZ cW cJ) A (oX9 mo zs zv (nI hn) zl zk zt (nI tn) vh zg zi zw vg zo ze vc vr vt vo (bI vm) vp va vb vd vq zd vz :: aI cI zs 28 gs :: aI cI zg 200 gg :: aI cI zi 100 gi :: aI cI zw 100 gw :: aI cI zo 10000 go :: aI cI ze 100 ge :: aZ cZ zd 100 gd :: aZ cZ zk 2 gk :: aI cI zt 60 gt :: X))) (va_Ql (fun (r : Int64) (u : (Nat → Int32) × (Nat → Int32) × (Nat → Int32) × (Nat → Int32) × (Nat → Int32) × (Nat → Int32) × Int32 × Int32 × Int32 × Int32 × Int32 × Bool × Int64) => r = digS S hn tk tn gt) (fun (u : (Nat → Int32) × (Nat → Int32) × (Nat → Int32) × (Nat → Int32) × (Nat → Int32) × (Nat → Int32) × Int32 × Int32 × Int32 × Int32 × Int32 × Bool × Int64) t => wq D A (oX9 mo zs zv (nI hn) zl zk zt (nI tn) 0 zg zi zw u.2.2.2.2.2.2.1 zo ze u.2.2.2.2.2.2.2.1 u.2.2.2.2.2.2.2.2.1 u.2.2.2.2.2.2.2.2.2.1 u.2.2.2.2.2.2.2.2.2.2.1 (bI u.2.2.2.2.2.2.2.2.2.2.2.1) vp va vb vd vq zd u.2.2.2.2.2.2.2.2.2.2.2.2 :: aI cI zs 28 gs :: aI cI zg 200 u.1 :: aI cI zi 100 u.2.1 :: aI cI zw 100 u.2.2.1 :: aI cI zo 10000 u.2.2.2.1 :: aI cI ze 100 u.2.2.2.2.1 :: aZ cZ zd 100 u.2.2.2.2.2.1 :: aZ cZ zk 2 gk :: aI cI zt 60 gt :: X) t) A) 0 0 A := by
  refine Met.ofW (cc := cX9_digest) (maxL := 2) (ret := (some .long)) (by decide) rfl ?_
  intro p e s m args below meth c s₁ B hml hv
  obtain ⟨rfl, hsz9, hP, hK, hD, hN⟩ := hv
  have hx := B.exec
  have hb := B.bytes
  have hr := B.returns
  have hts := atoms_spec (ws := wsX9_digest) B.pre
  have hown : s.vm.findClass RX9 = some m.cls := findClass_of_methodNamed B.named
  have hlocks := B.notSynchronized
  have CF : CallFix p m c cX9_digest 2 s _ wsX9_digest RX9 := ⟨hx, hb, hml, hown, hts⟩
  have hA : ∀ q : Nat, s.heap.size ≤ q → A q := hsz9
  have hS : va_S A s.heap s.heap [] := va_S.rf
  have hiX9 : ∀ w ∈ u_ws RX9 TX9 26, w ∈ wsX9_digest := fun _ h => List.mem_cons_of_mem _ (List.mem_append_right _ (h))
  have hl := lv_entry ([.ref mo]) (n := 2) (Nat.le_of_ble_eq_true rfl)
  rw [lg_entry_eq]
  generalize (lg_sl ([.ref mo]) ++ List.replicate (2 - (lg_sl ([.ref mo])).length) Slot.unset).toArray = ls at hl ⊢
  have hl : lv_has ls 2 [(0, .ref mo)] := hl
  show W p l e ({ frames := 8, cells := 0, slots := 0, locals := 186 } : Room) s m (([.ref mo] : List Value).toArray) below meth c s.heap [] 0 0 (MQ below (va_Ql (fun (r : Int64) (u : (Nat → Int32) × (Nat → Int32) × (Nat → Int32) × (Nat → Int32) × (Nat → Int32) × (Nat → Int32) × Int32 × Int32 × Int32 × Int32 × Int32 × Bool × Int64) => r = digS S hn tk tn gt) (fun (u : (Nat → Int32) × (Nat → Int32) × (Nat → Int32) × (Nat → Int32) × (Nat → Int32) × (Nat → Int32) × Int32 × Int32 × Int32 × Int32 × Int32 × Bool × Int64) t => wq D A (oX9 mo zs zv (nI hn) zl zk zt (nI tn) 0 zg zi zw u.2.2.2.2.2.2.1 zo ze u.2.2.2.2.2.2.2.1 u.2.2.2.2.2.2.2.2.1 u.2.2.2.2.2.2.2.2.2.1 u.2.2.2.2.2.2.2.2.2.2.1 (bI u.2.2.2.2.2.2.2.2.2.2.2.1) vp va vb vd vq zd u.2.2.2.2.2.2.2.2.2.2.2.2 :: aI cI zs 28 gs :: aI cI zg 200 u.1 :: aI cI zi 100 u.2.1 :: aI cI zw 100 u.2.2.1 :: aI cI zo 10000 u.2.2.2.1 :: aI cI ze 100 u.2.2.2.2.1 :: aZ cZ zd 100 u.2.2.2.2.2.1 :: aZ cZ zk 2 gk :: aI cI zt 60 gt :: X) t) A) (([.ref mo] : List Value).toArray) s 0 0 A) (F0 m 0 ls [])
  refine lv_aload_n hx hb dX9_digest_0 rfl (lv_at hl 0 rfl) ?_
  refine lv_iconst (v := 0) hx hb dX9_digest_1 (by decide) ?_
  refine va_put (D := D) (ci := 9) (v := .int 0) (ty := .int) (C := RX9) (T := TX9) (N := 26) hx hb hts hiX9 tyX9 tyX9_ok nmX9 hown hK hP hD hS 0 rfl rfl 7 (by decide) (hts (.fieldLink RX9 44 "LedgeLeapsModel" "thrown" "I") (List.mem_of_getElem? (i := 1) rfl)) (fun _ h9 => h9) rfl (by decide +kernel) rfl rfl (Nat.le_of_ble_eq_true rfl) dX9_digest_2 (fun H locs hP hD hS => ?_)
  have hP : va_P D vwCl (oX9 mo zs zv (nI hn) zl zk zt (nI tn) 0 zg zi zw vg zo ze vc vr vt vo (bI vm) vp va vb vd vq zd vz :: aI cI zs 28 gs :: aI cI zg 200 gg :: aI cI zi 100 gi :: aI cI zw 100 gw :: aI cI zo 10000 go :: aI cI ze 100 ge :: aZ cZ zd 100 gd :: aZ cZ zk 2 gk :: aI cI zt 60 gt :: X) H := hP
  have hD : va_D A (oX9 mo zs zv (nI hn) zl zk zt (nI tn) 0 zg zi zw vg zo ze vc vr vt vo (bI vm) vp va vb vd vq zd vz :: aI cI zs 28 gs :: aI cI zg 200 gg :: aI cI zi 100 gi :: aI cI zw 100 gw :: aI cI zo 10000 go :: aI cI ze 100 ge :: aZ cZ zd 100 gd :: aZ cZ zk 2 gk :: aI cI zt 60 gt :: X) := hD
  refine lv_aload_n hx hb dX9_digest_5 rfl (lv_at hl 0 rfl) ?_
  refine cV_v CF hK hN hA hS (cut_of 10 [0, 1, 2, 3, 4, 5, 6, 7, 8, 9] hP hD rfl rfl rfl) (n_findReaches l D cI cZ cW cJ A (aI cI ze 100 ge :: aZ cZ zd 100 gd :: aZ cZ zk 2 gk :: aI cI zt 60 gt :: X) mo zs zv zl zk zt zg zi zw zo ze zd (nI hn) (nI tn) 0 vg vc vr vt vo vp va vb vd vq vm vz gs gg gi gw go S hS0 hWf) (cwV 0 hts gX9_digest_X9_findReaches rfl rfl rfl (by decide +kernel) ⟨Nat.le_of_ble_eq_true rfl, Nat.le_of_ble_eq_true rfl⟩) (As := []) (rest := []) (ci := 9) (q0 := 0) rfl rfl rfl hl.1 rfl (Nat.le_of_ble_eq_true rfl) dX9_digest_6 ⟨Nat.le_of_ble_eq_true rfl, Nat.le_of_ble_eq_true rfl⟩ (fun u_6 H locs hq hP hD hS => ?_)
  have hq_6 : MapM S u_6.1 u_6.2.1 u_6.2.2.1 ∧ RchM S u_6.2.2.2.1 := hq
  have hP : va_P D vwCl (oX9 mo zs zv (nI hn) zl zk zt (nI tn) 0 zg zi zw (nI (nS S)) zo ze u_6.2.2.2.2.1 u_6.2.2.2.2.2.1 u_6.2.2.2.2.2.2.1 u_6.2.2.2.2.2.2.2.1 (bI u_6.2.2.2.2.2.2.2.2) vp va vb vd vq zd vz :: aI cI zs 28 gs :: aI cI zg 200 u_6.1 :: aI cI zi 100 u_6.2.1 :: aI cI zw 100 u_6.2.2.1 :: aI cI zo 10000 u_6.2.2.2.1 :: aI cI ze 100 ge :: aZ cZ zd 100 gd :: aZ cZ zk 2 gk :: aI cI zt 60 gt :: X) H := pm_P hP 10 [0, 1, 2, 3, 4, 5, 6, 7, 8, 9] rfl
  have hD : va_D A (oX9 mo zs zv (nI hn) zl zk zt (nI tn) 0 zg zi zw (nI (nS S)) zo ze u_6.2.2.2.2.1 u_6.2.2.2.2.2.1 u_6.2.2.2.2.2.2.1 u_6.2.2.2.2.2.2.2.1 (bI u_6.2.2.2.2.2.2.2.2) vp va vb vd vq zd vz :: aI cI zs 28 gs :: aI cI zg 200 u_6.1 :: aI cI zi 100 u_6.2.1 :: aI cI zw 100 u_6.2.2.1 :: aI cI zo 10000 u_6.2.2.2.1 :: aI cI ze 100 ge :: aZ cZ zd 100 gd :: aZ cZ zk 2 gk :: aI cI zt 60 gt :: X) := pm_D hD 10 [0, 1, 2, 3, 4, 5, 6, 7, 8, 9] rfl rfl rfl
  have hM : MapM S u_6.1 u_6.2.1 u_6.2.2.1 := hq_6.1
  have hR : RchM S u_6.2.2.2.1 := hq_6.2
  refine lv_aload_n hx hb dX9_digest_9 rfl (lv_at hl 0 rfl) ?_
  refine lv_ldc2 (v := 3511) hx hb hown (hts (.constantLong RX9 247 (3511)) (List.mem_of_getElem? (i := 2) rfl)) dX9_digest_10 ?_
  refine va_put (D := D) (ci := 9) (v := .long 3511) (ty := .long) (C := RX9) (T := TX9) (N := 26) hx hb hts hiX9 tyX9 tyX9_ok nmX9 hown hK hP hD hS 0 rfl rfl 25 (by decide) (hts (.fieldLink RX9 239 "LedgeLeapsModel" "hash" "J") (List.mem_of_getElem? (i := 3) rfl)) (fun _ h9 => h9) rfl (by decide +kernel) rfl rfl (Nat.le_of_ble_eq_true rfl) dX9_digest_13 (fun H locs hP hD hS => ?_)
  have hP : va_P D vwCl (oX9 mo zs zv (nI hn) zl zk zt (nI tn) 0 zg zi zw (nI (nS S)) zo ze u_6.2.2.2.2.1 u_6.2.2.2.2.2.1 u_6.2.2.2.2.2.2.1 u_6.2.2.2.2.2.2.2.1 (bI u_6.2.2.2.2.2.2.2.2) vp va vb vd vq zd 3511 :: aI cI zs 28 gs :: aI cI zg 200 u_6.1 :: aI cI zi 100 u_6.2.1 :: aI cI zw 100 u_6.2.2.1 :: aI cI zo 10000 u_6.2.2.2.1 :: aI cI ze 100 ge :: aZ cZ zd 100 gd :: aZ cZ zk 2 gk :: aI cI zt 60 gt :: X) H := hP
  have hD : va_D A (oX9 mo zs zv (nI hn) zl zk zt (nI tn) 0 zg zi zw (nI (nS S)) zo ze u_6.2.2.2.2.1 u_6.2.2.2.2.2.1 u_6.2.2.2.2.2.2.1 u_6.2.2.2.2.2.2.2.1 (bI u_6.2.2.2.2.2.2.2.2) vp va vb vd vq zd 3511 :: aI cI zs 28 gs :: aI cI zg 200 u_6.1 :: aI cI zi 100 u_6.2.1 :: aI cI zw 100 u_6.2.2.1 :: aI cI zo 10000 u_6.2.2.2.1 :: aI cI ze 100 ge :: aZ cZ zd 100 gd :: aZ cZ zk 2 gk :: aI cI zt 60 gt :: X) := hD
  refine lv_iconst (v := 0) hx hb dX9_digest_16 (by decide) ?_
  refine lv_istore_n (lv' := [(1, .int 0), (0, .ref mo)]) hx hb dX9_digest_17 rfl hl (by decide) rfl (fun ls hl => ?_)
  have loop_18 : ∀ (nfu : Nat) (k : Nat) (z1 : Int64) (e1 : Nat → Int32) (hn_18 : 10 - k < nfu) (hk : k ≤ 10) (hv1 : z1 = hL (fun k => (countS S hn k).toInt64) k 3511) (H : Heap) (locs : List Loc) (hP : va_P D vwCl (oX9 mo zs zv (nI hn) zl zk zt (nI tn) 0 zg zi zw (nI (nS S)) zo ze u_6.2.2.2.2.1 u_6.2.2.2.2.2.1 u_6.2.2.2.2.2.2.1 u_6.2.2.2.2.2.2.2.1 (bI u_6.2.2.2.2.2.2.2.2) vp va vb vd vq zd z1 :: aI cI zs 28 gs :: aI cI zg 200 u_6.1 :: aI cI zi 100 u_6.2.1 :: aI cI zw 100 u_6.2.2.1 :: aI cI zo 10000 u_6.2.2.2.1 :: aI cI ze 100 e1 :: aZ cZ zd 100 gd :: aZ cZ zk 2 gk :: aI cI zt 60 gt :: X) H) (hD : va_D A (oX9 mo zs zv (nI hn) zl zk zt (nI tn) 0 zg zi zw (nI (nS S)) zo ze u_6.2.2.2.2.1 u_6.2.2.2.2.2.1 u_6.2.2.2.2.2.2.1 u_6.2.2.2.2.2.2.2.1 (bI u_6.2.2.2.2.2.2.2.2) vp va vb vd vq zd z1 :: aI cI zs 28 gs :: aI cI zg 200 u_6.1 :: aI cI zi 100 u_6.2.1 :: aI cI zw 100 u_6.2.2.1 :: aI cI zo 10000 u_6.2.2.2.1 :: aI cI ze 100 e1 :: aZ cZ zd 100 gd :: aZ cZ zk 2 gk :: aI cI zt 60 gt :: X)) (hS : va_S A s.heap H locs) (ls : Array Slot) (hl : lv_has ls 2 [(1, .int (nI k)), (0, .ref mo)]), W p l e ({ frames := 8, cells := 0, slots := 0, locals := 186 } : Room) s m (([.ref mo] : List Value).toArray) below meth c H locs 0 0 (MQ below (va_Ql (fun (r : Int64) (u : (Nat → Int32) × (Nat → Int32) × (Nat → Int32) × (Nat → Int32) × (Nat → Int32) × (Nat → Int32) × Int32 × Int32 × Int32 × Int32 × Int32 × Bool × Int64) => r = digS S hn tk tn gt) (fun (u : (Nat → Int32) × (Nat → Int32) × (Nat → Int32) × (Nat → Int32) × (Nat → Int32) × (Nat → Int32) × Int32 × Int32 × Int32 × Int32 × Int32 × Bool × Int64) t => wq D A (oX9 mo zs zv (nI hn) zl zk zt (nI tn) 0 zg zi zw u.2.2.2.2.2.2.1 zo ze u.2.2.2.2.2.2.2.1 u.2.2.2.2.2.2.2.2.1 u.2.2.2.2.2.2.2.2.2.1 u.2.2.2.2.2.2.2.2.2.2.1 (bI u.2.2.2.2.2.2.2.2.2.2.2.1) vp va vb vd vq zd u.2.2.2.2.2.2.2.2.2.2.2.2 :: aI cI zs 28 gs :: aI cI zg 200 u.1 :: aI cI zi 100 u.2.1 :: aI cI zw 100 u.2.2.1 :: aI cI zo 10000 u.2.2.2.1 :: aI cI ze 100 u.2.2.2.2.1 :: aZ cZ zd 100 u.2.2.2.2.2.1 :: aZ cZ zk 2 gk :: aI cI zt 60 gt :: X) t) A) (([.ref mo] : List Value).toArray) s 0 0 A) (F0 m 18 ls []) := by
    intro nfu
    induction nfu with
    | zero => intro k z1 e1 hn_18; exact absurd hn_18 (Nat.not_lt_zero _)
    | succ nfu ih_18 =>
      intro k z1 e1 hn_18 hk hv1 H locs hP hD hS ls hl
      refine lv_iload_n hx hb dX9_digest_18 rfl (lv_at hl 0 rfl) ?_
      refine lv_bipush (v := 10) hx hb dX9_digest_19 (by decide) ?_
      refine lv_icmp_ge (tgt := 40) hx hb dX9_digest_21 (by decide) (fun c_21 => ?_) (fun c_21 => ?_)
      · have hk1 : k = 10 := by have h := le_of_ge (a := 10) (b := k) (by decide) (by omega) c_21; omega
        refine lv_iconst (v := 0) hx hb dX9_digest_40 (by decide) ?_
        refine lv_istore_n (lv' := [(1, .int 0), (0, .ref mo)]) hx hb dX9_digest_41 rfl hl (by decide) rfl (fun ls hl => ?_)
        have loop_42 : ∀ (nfu : Nat) (k : Nat) (z2 : Int64) (hn_42 : 3 - k < nfu) (hk : k ≤ 3) (hv2 : z2 = hL (fun k => (setS S k).toInt64) k z1) (H : Heap) (locs : List Loc) (hP : va_P D vwCl (oX9 mo zs zv (nI hn) zl zk zt (nI tn) 0 zg zi zw (nI (nS S)) zo ze u_6.2.2.2.2.1 u_6.2.2.2.2.2.1 u_6.2.2.2.2.2.2.1 u_6.2.2.2.2.2.2.2.1 (bI u_6.2.2.2.2.2.2.2.2) vp va vb vd vq zd z2 :: aI cI zs 28 gs :: aI cI zg 200 u_6.1 :: aI cI zi 100 u_6.2.1 :: aI cI zw 100 u_6.2.2.1 :: aI cI zo 10000 u_6.2.2.2.1 :: aI cI ze 100 e1 :: aZ cZ zd 100 gd :: aZ cZ zk 2 gk :: aI cI zt 60 gt :: X) H) (hD : va_D A (oX9 mo zs zv (nI hn) zl zk zt (nI tn) 0 zg zi zw (nI (nS S)) zo ze u_6.2.2.2.2.1 u_6.2.2.2.2.2.1 u_6.2.2.2.2.2.2.1 u_6.2.2.2.2.2.2.2.1 (bI u_6.2.2.2.2.2.2.2.2) vp va vb vd vq zd z2 :: aI cI zs 28 gs :: aI cI zg 200 u_6.1 :: aI cI zi 100 u_6.2.1 :: aI cI zw 100 u_6.2.2.1 :: aI cI zo 10000 u_6.2.2.2.1 :: aI cI ze 100 e1 :: aZ cZ zd 100 gd :: aZ cZ zk 2 gk :: aI cI zt 60 gt :: X)) (hS : va_S A s.heap H locs) (ls : Array Slot) (hl : lv_has ls 2 [(1, .int (nI k)), (0, .ref mo)]), W p l e ({ frames := 8, cells := 0, slots := 0, locals := 186 } : Room) s m (([.ref mo] : List Value).toArray) below meth c H locs 0 0 (MQ below (va_Ql (fun (r : Int64) (u : (Nat → Int32) × (Nat → Int32) × (Nat → Int32) × (Nat → Int32) × (Nat → Int32) × (Nat → Int32) × Int32 × Int32 × Int32 × Int32 × Int32 × Bool × Int64) => r = digS S hn tk tn gt) (fun (u : (Nat → Int32) × (Nat → Int32) × (Nat → Int32) × (Nat → Int32) × (Nat → Int32) × (Nat → Int32) × Int32 × Int32 × Int32 × Int32 × Int32 × Bool × Int64) t => wq D A (oX9 mo zs zv (nI hn) zl zk zt (nI tn) 0 zg zi zw u.2.2.2.2.2.2.1 zo ze u.2.2.2.2.2.2.2.1 u.2.2.2.2.2.2.2.2.1 u.2.2.2.2.2.2.2.2.2.1 u.2.2.2.2.2.2.2.2.2.2.1 (bI u.2.2.2.2.2.2.2.2.2.2.2.1) vp va vb vd vq zd u.2.2.2.2.2.2.2.2.2.2.2.2 :: aI cI zs 28 gs :: aI cI zg 200 u.1 :: aI cI zi 100 u.2.1 :: aI cI zw 100 u.2.2.1 :: aI cI zo 10000 u.2.2.2.1 :: aI cI ze 100 u.2.2.2.2.1 :: aZ cZ zd 100 u.2.2.2.2.2.1 :: aZ cZ zk 2 gk :: aI cI zt 60 gt :: X) t) A) (([.ref mo] : List Value).toArray) s 0 0 A) (F0 m 42 ls []) := by
          intro nfu
          induction nfu with
          | zero => intro k z2 hn_42; exact absurd hn_42 (Nat.not_lt_zero _)
          | succ nfu ih_42 =>
            intro k z2 hn_42 hk hv2 H locs hP hD hS ls hl
            refine lv_iload_n hx hb dX9_digest_42 rfl (lv_at hl 0 rfl) ?_
            refine lv_iconst (v := 3) hx hb dX9_digest_43 (by decide) ?_
            refine lv_icmp_ge (tgt := 67) hx hb dX9_digest_44 (by decide) (fun c_44 => ?_) (fun c_44 => ?_)
            · have hk2 : k = 3 := by have h := le_of_ge (a := 3) (b := k) (by decide) (by omega) c_44; omega
              refine lv_iconst (v := 0) hx hb dX9_digest_67 (by decide) ?_
              refine lv_istore_n (lv' := [(1, .int 0), (0, .ref mo)]) hx hb dX9_digest_68 rfl hl (by decide) rfl (fun ls hl => ?_)
              have loop_69 : ∀ (nfu : Nat) (k : Nat) (z3 : Int64) (hn_69 : 600 - k < nfu) (hk : k ≤ 600) (hv3 : z3 = hL (fun q => (cellS S (q / 3 % 20) (q / 3 / 20) (q % 3)).toInt64) k z2) (H : Heap) (locs : List Loc) (hP : va_P D vwCl (oX9 mo zs zv (nI hn) zl zk zt (nI tn) 0 zg zi zw (nI (nS S)) zo ze u_6.2.2.2.2.1 u_6.2.2.2.2.2.1 u_6.2.2.2.2.2.2.1 u_6.2.2.2.2.2.2.2.1 (bI u_6.2.2.2.2.2.2.2.2) vp va vb vd vq zd z3 :: aI cI zs 28 gs :: aI cI zg 200 u_6.1 :: aI cI zi 100 u_6.2.1 :: aI cI zw 100 u_6.2.2.1 :: aI cI zo 10000 u_6.2.2.2.1 :: aI cI ze 100 e1 :: aZ cZ zd 100 gd :: aZ cZ zk 2 gk :: aI cI zt 60 gt :: X) H) (hD : va_D A (oX9 mo zs zv (nI hn) zl zk zt (nI tn) 0 zg zi zw (nI (nS S)) zo ze u_6.2.2.2.2.1 u_6.2.2.2.2.2.1 u_6.2.2.2.2.2.2.1 u_6.2.2.2.2.2.2.2.1 (bI u_6.2.2.2.2.2.2.2.2) vp va vb vd vq zd z3 :: aI cI zs 28 gs :: aI cI zg 200 u_6.1 :: aI cI zi 100 u_6.2.1 :: aI cI zw 100 u_6.2.2.1 :: aI cI zo 10000 u_6.2.2.2.1 :: aI cI ze 100 e1 :: aZ cZ zd 100 gd :: aZ cZ zk 2 gk :: aI cI zt 60 gt :: X)) (hS : va_S A s.heap H locs) (ls : Array Slot) (hl : lv_has ls 2 [(1, .int (nI k)), (0, .ref mo)]), W p l e ({ frames := 8, cells := 0, slots := 0, locals := 186 } : Room) s m (([.ref mo] : List Value).toArray) below meth c H locs 0 0 (MQ below (va_Ql (fun (r : Int64) (u : (Nat → Int32) × (Nat → Int32) × (Nat → Int32) × (Nat → Int32) × (Nat → Int32) × (Nat → Int32) × Int32 × Int32 × Int32 × Int32 × Int32 × Bool × Int64) => r = digS S hn tk tn gt) (fun (u : (Nat → Int32) × (Nat → Int32) × (Nat → Int32) × (Nat → Int32) × (Nat → Int32) × (Nat → Int32) × Int32 × Int32 × Int32 × Int32 × Int32 × Bool × Int64) t => wq D A (oX9 mo zs zv (nI hn) zl zk zt (nI tn) 0 zg zi zw u.2.2.2.2.2.2.1 zo ze u.2.2.2.2.2.2.2.1 u.2.2.2.2.2.2.2.2.1 u.2.2.2.2.2.2.2.2.2.1 u.2.2.2.2.2.2.2.2.2.2.1 (bI u.2.2.2.2.2.2.2.2.2.2.2.1) vp va vb vd vq zd u.2.2.2.2.2.2.2.2.2.2.2.2 :: aI cI zs 28 gs :: aI cI zg 200 u.1 :: aI cI zi 100 u.2.1 :: aI cI zw 100 u.2.2.1 :: aI cI zo 10000 u.2.2.2.1 :: aI cI ze 100 u.2.2.2.2.1 :: aZ cZ zd 100 u.2.2.2.2.2.1 :: aZ cZ zk 2 gk :: aI cI zt 60 gt :: X) t) A) (([.ref mo] : List Value).toArray) s 0 0 A) (F0 m 69 ls []) := by
                intro nfu
                induction nfu with
                | zero => intro k z3 hn_69; exact absurd hn_69 (Nat.not_lt_zero _)
                | succ nfu ih_69 =>
                  intro k z3 hn_69 hk hv3 H locs hP hD hS ls hl
                  refine lv_iload_n hx hb dX9_digest_69 rfl (lv_at hl 0 rfl) ?_
                  refine lv_sipush (v := 600) hx hb dX9_digest_70 (by decide) ?_
                  refine lv_icmp_ge (tgt := 106) hx hb dX9_digest_73 (by decide) (fun c_73 => ?_) (fun c_73 => ?_)
                  · have hz3 : z3 = hI (fun j h => hI (fun i h => hL (fun k => (cellS S i j k).toInt64) 3 h) 20 h) 10 z2 := by rw [hv3, show k = 600 by have h := le_of_ge (a := 600) (b := k) (by decide) (by omega) c_73; omega, cells_flat (fun i j k => (cellS S i j k).toInt64)]
                    refine lv_aload_n hx hb dX9_digest_106 rfl (lv_at hl 1 rfl) ?_
                    refine cV_v CF hK hN hA hS (cut_of 10 [0, 1, 2, 3, 4, 5, 6, 7, 8, 9] hP hD rfl rfl rfl) (n_mixLedges l D cI cZ cW cJ A (aZ cZ zd 100 gd :: aZ cZ zk 2 gk :: aI cI zt 60 gt :: X) mo zs zv zl zk zt zg zi zw zo ze zd (nI hn) (nI tn) 0 u_6.2.2.2.2.1 u_6.2.2.2.2.2.1 u_6.2.2.2.2.2.2.1 u_6.2.2.2.2.2.2.2.1 vp va vb vd vq u_6.2.2.2.2.2.2.2.2 z3 gs u_6.1 u_6.2.1 u_6.2.2.1 u_6.2.2.2.1 e1 S hS0 hWf hM hR) (cwV 0 hts gX9_digest_X9_mixLedges rfl rfl rfl (by decide +kernel) ⟨Nat.le_of_ble_eq_true rfl, Nat.le_of_ble_eq_true rfl⟩) (As := []) (rest := []) (ci := 9) (q0 := 0) rfl rfl rfl hl.1 rfl (Nat.le_of_ble_eq_true rfl) dX9_digest_107 ⟨Nat.le_of_ble_eq_true rfl, Nat.le_of_ble_eq_true rfl⟩ (fun u_107 H locs hq hP hD hS => ?_)
                    have hq_107 : True := hq
                    have hP : va_P D vwCl (oX9 mo zs zv (nI hn) zl zk zt (nI tn) 0 zg zi zw (nI (nS S)) zo ze u_6.2.2.2.2.1 u_6.2.2.2.2.2.1 u_6.2.2.2.2.2.2.1 u_6.2.2.2.2.2.2.2.1 (bI u_6.2.2.2.2.2.2.2.2) vp va vb vd vq zd (hI (fun a h => mxI (mxI (hL (fun k => (ledgeS S a k).toInt64) 6 h) (dS S 3 (owS S) a)) (dS S 3 (owS S) a)) (nS S) z3) :: aI cI zs 28 gs :: aI cI zg 200 u_6.1 :: aI cI zi 100 u_6.2.1 :: aI cI zw 100 u_6.2.2.1 :: aI cI zo 10000 u_6.2.2.2.1 :: aI cI ze 100 u_107 :: aZ cZ zd 100 gd :: aZ cZ zk 2 gk :: aI cI zt 60 gt :: X) H := pm_P hP 10 [0, 1, 2, 3, 4, 5, 6, 7, 8, 9] rfl
                    have hD : va_D A (oX9 mo zs zv (nI hn) zl zk zt (nI tn) 0 zg zi zw (nI (nS S)) zo ze u_6.2.2.2.2.1 u_6.2.2.2.2.2.1 u_6.2.2.2.2.2.2.1 u_6.2.2.2.2.2.2.2.1 (bI u_6.2.2.2.2.2.2.2.2) vp va vb vd vq zd (hI (fun a h => mxI (mxI (hL (fun k => (ledgeS S a k).toInt64) 6 h) (dS S 3 (owS S) a)) (dS S 3 (owS S) a)) (nS S) z3) :: aI cI zs 28 gs :: aI cI zg 200 u_6.1 :: aI cI zi 100 u_6.2.1 :: aI cI zw 100 u_6.2.2.1 :: aI cI zo 10000 u_6.2.2.2.1 :: aI cI ze 100 u_107 :: aZ cZ zd 100 gd :: aZ cZ zk 2 gk :: aI cI zt 60 gt :: X) := pm_D hD 10 [0, 1, 2, 3, 4, 5, 6, 7, 8, 9] rfl rfl rfl
                    refine lv_aload_n hx hb dX9_digest_110 rfl (lv_at hl 1 rfl) ?_
                    refine cV_v CF hK hN hA hS (cut_of 10 [0, 1, 2, 3, 4, 5, 6, 7, 8, 9] hP hD rfl rfl rfl) (n_mixLeaps l D cI cZ cW cJ A (aI cI zg 200 u_6.1 :: aI cI zi 100 u_6.2.1 :: aI cI zw 100 u_6.2.2.1 :: aI cI zo 10000 u_6.2.2.2.1 :: aI cI ze 100 u_107 :: aZ cZ zd 100 gd :: aZ cZ zk 2 gk :: aI cI zt 60 gt :: X) mo zs zv zl zk zt zg zi zw zo ze zd (nI hn) (nI tn) 0 (nI (nS S)) u_6.2.2.2.2.1 u_6.2.2.2.2.2.1 u_6.2.2.2.2.2.2.1 u_6.2.2.2.2.2.2.2.1 vp va vb vd vq u_6.2.2.2.2.2.2.2.2 (hI (fun a h => mxI (mxI (hL (fun k => (ledgeS S a k).toInt64) 6 h) (dS S 3 (owS S) a)) (dS S 3 (owS S) a)) (nS S) z3) gs S hS0 hWf) (cwV 0 hts gX9_digest_X9_mixLeaps rfl rfl rfl (by decide +kernel) ⟨Nat.le_of_ble_eq_true rfl, Nat.le_of_ble_eq_true rfl⟩) (As := []) (rest := []) (ci := 9) (q0 := 0) rfl rfl rfl hl.1 rfl (Nat.le_of_ble_eq_true rfl) dX9_digest_111 ⟨Nat.le_of_ble_eq_true rfl, Nat.le_of_ble_eq_true rfl⟩ (fun u_111 H locs hq hP hD hS => ?_)
                    have hq_111 : True := hq
                    have hP : va_P D vwCl (oX9 mo zs zv (nI hn) zl zk zt (nI tn) 0 zg zi zw (nI (nS S)) zo ze u_111.1 u_111.2.1 u_111.2.2.1 u_111.2.2.2.1 (bI u_111.2.2.2.2) vp va vb vd vq zd (hI (fun i h => hI (fun u9 h => hL (fun k => (leapS S S.2.2.1.1 S.2.2.1.2 (if i = 0 then 1 else -1) u9 k).toInt64) 5 h) 2 h) 2 (hI (fun a h => mxI (mxI (hL (fun k => (ledgeS S a k).toInt64) 6 h) (dS S 3 (owS S) a)) (dS S 3 (owS S) a)) (nS S) z3)) :: aI cI zs 28 gs :: aI cI zg 200 u_6.1 :: aI cI zi 100 u_6.2.1 :: aI cI zw 100 u_6.2.2.1 :: aI cI zo 10000 u_6.2.2.2.1 :: aI cI ze 100 u_107 :: aZ cZ zd 100 gd :: aZ cZ zk 2 gk :: aI cI zt 60 gt :: X) H := pm_P hP 10 [0, 1, 2, 3, 4, 5, 6, 7, 8, 9] rfl
                    have hD : va_D A (oX9 mo zs zv (nI hn) zl zk zt (nI tn) 0 zg zi zw (nI (nS S)) zo ze u_111.1 u_111.2.1 u_111.2.2.1 u_111.2.2.2.1 (bI u_111.2.2.2.2) vp va vb vd vq zd (hI (fun i h => hI (fun u9 h => hL (fun k => (leapS S S.2.2.1.1 S.2.2.1.2 (if i = 0 then 1 else -1) u9 k).toInt64) 5 h) 2 h) 2 (hI (fun a h => mxI (mxI (hL (fun k => (ledgeS S a k).toInt64) 6 h) (dS S 3 (owS S) a)) (dS S 3 (owS S) a)) (nS S) z3)) :: aI cI zs 28 gs :: aI cI zg 200 u_6.1 :: aI cI zi 100 u_6.2.1 :: aI cI zw 100 u_6.2.2.1 :: aI cI zo 10000 u_6.2.2.2.1 :: aI cI ze 100 u_107 :: aZ cZ zd 100 gd :: aZ cZ zk 2 gk :: aI cI zt 60 gt :: X) := pm_D hD 10 [0, 1, 2, 3, 4, 5, 6, 7, 8, 9] rfl rfl rfl
                    refine lv_aload_n hx hb dX9_digest_114 rfl (lv_at hl 1 rfl) ?_
                    refine lv_aload_n hx hb dX9_digest_115 rfl (lv_at hl 1 rfl) ?_
                    refine lv_iconst (v := 5) hx hb dX9_digest_116 (by decide) ?_
                    refine cV_i CF hK hN hA hS (cut_of 10 [0, 1, 2, 3, 4, 5, 6, 7, 8, 9] hP hD rfl rfl rfl) (n_heightBehind l D cI cZ cW cJ A (aI cI zg 200 u_6.1 :: aI cI zi 100 u_6.2.1 :: aI cI zw 100 u_6.2.2.1 :: aI cI zo 10000 u_6.2.2.2.1 :: aI cI ze 100 u_107 :: aZ cZ zd 100 gd :: aZ cZ zk 2 gk :: aI cI zt 60 gt :: X) mo zs zv zl zk zt zg zi zw zo ze zd (nI hn) (nI tn) 0 (nI (nS S)) u_111.1 u_111.2.1 u_111.2.2.1 u_111.2.2.2.1 vp va vb vd vq u_111.2.2.2.2 (hI (fun i h => hI (fun u9 h => hL (fun k => (leapS S S.2.2.1.1 S.2.2.1.2 (if i = 0 then 1 else -1) u9 k).toInt64) 5 h) 2 h) 2 (hI (fun a h => mxI (mxI (hL (fun k => (ledgeS S a k).toInt64) 6 h) (dS S 3 (owS S) a)) (dS S 3 (owS S) a)) (nS S) z3)) gs S 5 hS0 hWf (by decide)) (cwV 1 hts gX9_digest_X9_heightBehind rfl rfl rfl (by decide +kernel) ⟨Nat.le_of_ble_eq_true rfl, Nat.le_of_ble_eq_true rfl⟩) (As := [.int 5]) (rest := [.ref mo]) (ci := 9) (q0 := 0) rfl rfl rfl hl.1 rfl (Nat.le_of_ble_eq_true rfl) dX9_digest_117 ⟨Nat.le_of_ble_eq_true rfl, Nat.le_of_ble_eq_true rfl⟩ (fun r_117 _ H locs hq hP hD hS => ?_)
                    have hq : r_117 = arcS S 5 := hq
                    subst hq
                    have hP : va_P D vwCl (oX9 mo zs zv (nI hn) zl zk zt (nI tn) 0 zg zi zw (nI (nS S)) zo ze u_111.1 u_111.2.1 u_111.2.2.1 u_111.2.2.2.1 (bI u_111.2.2.2.2) vp va vb vd vq zd (hI (fun i h => hI (fun u9 h => hL (fun k => (leapS S S.2.2.1.1 S.2.2.1.2 (if i = 0 then 1 else -1) u9 k).toInt64) 5 h) 2 h) 2 (hI (fun a h => mxI (mxI (hL (fun k => (ledgeS S a k).toInt64) 6 h) (dS S 3 (owS S) a)) (dS S 3 (owS S) a)) (nS S) z3)) :: aI cI zs 28 gs :: aI cI zg 200 u_6.1 :: aI cI zi 100 u_6.2.1 :: aI cI zw 100 u_6.2.2.1 :: aI cI zo 10000 u_6.2.2.2.1 :: aI cI ze 100 u_107 :: aZ cZ zd 100 gd :: aZ cZ zk 2 gk :: aI cI zt 60 gt :: X) H := pm_P hP 10 [0, 1, 2, 3, 4, 5, 6, 7, 8, 9] rfl
                    have hD : va_D A (oX9 mo zs zv (nI hn) zl zk zt (nI tn) 0 zg zi zw (nI (nS S)) zo ze u_111.1 u_111.2.1 u_111.2.2.1 u_111.2.2.2.1 (bI u_111.2.2.2.2) vp va vb vd vq zd (hI (fun i h => hI (fun u9 h => hL (fun k => (leapS S S.2.2.1.1 S.2.2.1.2 (if i = 0 then 1 else -1) u9 k).toInt64) 5 h) 2 h) 2 (hI (fun a h => mxI (mxI (hL (fun k => (ledgeS S a k).toInt64) 6 h) (dS S 3 (owS S) a)) (dS S 3 (owS S) a)) (nS S) z3)) :: aI cI zs 28 gs :: aI cI zg 200 u_6.1 :: aI cI zi 100 u_6.2.1 :: aI cI zw 100 u_6.2.2.1 :: aI cI zo 10000 u_6.2.2.2.1 :: aI cI ze 100 u_107 :: aZ cZ zd 100 gd :: aZ cZ zk 2 gk :: aI cI zt 60 gt :: X) := pm_D hD 10 [0, 1, 2, 3, 4, 5, 6, 7, 8, 9] rfl rfl rfl
                    refine lv_i2l (v := ((arcS S 5)).toInt64) hx hb dX9_digest_120 rfl ?_
                    refine cV_v CF hK hN hA hS (cut_of 10 [0, 1, 2, 3, 4, 5, 6, 7, 8, 9] hP hD rfl rfl rfl) (n_mix l D cI cZ cW cJ A (aI cI zs 28 gs :: aI cI zg 200 u_6.1 :: aI cI zi 100 u_6.2.1 :: aI cI zw 100 u_6.2.2.1 :: aI cI zo 10000 u_6.2.2.2.1 :: aI cI ze 100 u_107 :: aZ cZ zd 100 gd :: aZ cZ zk 2 gk :: aI cI zt 60 gt :: X) mo zs zv zl zk zt zg zi zw zo ze zd (nI hn) (nI tn) 0 (nI (nS S)) u_111.1 u_111.2.1 u_111.2.2.1 u_111.2.2.2.1 vp va vb vd vq u_111.2.2.2.2 (hI (fun i h => hI (fun u9 h => hL (fun k => (leapS S S.2.2.1.1 S.2.2.1.2 (if i = 0 then 1 else -1) u9 k).toInt64) 5 h) 2 h) 2 (hI (fun a h => mxI (mxI (hL (fun k => (ledgeS S a k).toInt64) 6 h) (dS S 3 (owS S) a)) (dS S 3 (owS S) a)) (nS S) z3)) (((arcS S 5)).toInt64)) (cwV 1 hts gX9_digest_X9_mix rfl rfl rfl (by decide +kernel) ⟨Nat.le_of_ble_eq_true rfl, Nat.le_of_ble_eq_true rfl⟩) (As := [.long (((arcS S 5)).toInt64)]) (rest := []) (ci := 9) (q0 := 0) rfl rfl rfl hl.1 rfl (Nat.le_of_ble_eq_true rfl) dX9_digest_121 ⟨Nat.le_of_ble_eq_true rfl, Nat.le_of_ble_eq_true rfl⟩ (fun _ H locs hq hP hD hS => ?_)
                    have hP : va_P D vwCl (oX9 mo zs zv (nI hn) zl zk zt (nI tn) 0 zg zi zw (nI (nS S)) zo ze u_111.1 u_111.2.1 u_111.2.2.1 u_111.2.2.2.1 (bI u_111.2.2.2.2) vp va vb vd vq zd (mxL (hI (fun i h => hI (fun u9 h => hL (fun k => (leapS S S.2.2.1.1 S.2.2.1.2 (if i = 0 then 1 else -1) u9 k).toInt64) 5 h) 2 h) 2 (hI (fun a h => mxI (mxI (hL (fun k => (ledgeS S a k).toInt64) 6 h) (dS S 3 (owS S) a)) (dS S 3 (owS S) a)) (nS S) z3)) (((arcS S 5)).toInt64)) :: aI cI zs 28 gs :: aI cI zg 200 u_6.1 :: aI cI zi 100 u_6.2.1 :: aI cI zw 100 u_6.2.2.1 :: aI cI zo 10000 u_6.2.2.2.1 :: aI cI ze 100 u_107 :: aZ cZ zd 100 gd :: aZ cZ zk 2 gk :: aI cI zt 60 gt :: X) H := pm_P hP 10 [0, 1, 2, 3, 4, 5, 6, 7, 8, 9] rfl
                    have hD : va_D A (oX9 mo zs zv (nI hn) zl zk zt (nI tn) 0 zg zi zw (nI (nS S)) zo ze u_111.1 u_111.2.1 u_111.2.2.1 u_111.2.2.2.1 (bI u_111.2.2.2.2) vp va vb vd vq zd (mxL (hI (fun i h => hI (fun u9 h => hL (fun k => (leapS S S.2.2.1.1 S.2.2.1.2 (if i = 0 then 1 else -1) u9 k).toInt64) 5 h) 2 h) 2 (hI (fun a h => mxI (mxI (hL (fun k => (ledgeS S a k).toInt64) 6 h) (dS S 3 (owS S) a)) (dS S 3 (owS S) a)) (nS S) z3)) (((arcS S 5)).toInt64)) :: aI cI zs 28 gs :: aI cI zg 200 u_6.1 :: aI cI zi 100 u_6.2.1 :: aI cI zw 100 u_6.2.2.1 :: aI cI zo 10000 u_6.2.2.2.1 :: aI cI ze 100 u_107 :: aZ cZ zd 100 gd :: aZ cZ zk 2 gk :: aI cI zt 60 gt :: X) := pm_D hD 10 [0, 1, 2, 3, 4, 5, 6, 7, 8, 9] rfl rfl rfl
                    refine lv_aload_n hx hb dX9_digest_124 rfl (lv_at hl 1 rfl) ?_
                    refine lv_aload_n hx hb dX9_digest_125 rfl (lv_at hl 1 rfl) ?_
                    refine lv_iconst (v := 5) hx hb dX9_digest_126 (by decide) ?_
                    refine cV_i CF hK hN hA hS (cut_of 10 [0, 1, 2, 3, 4, 5, 6, 7, 8, 9] hP hD rfl rfl rfl) (n_heightBehind l D cI cZ cW cJ A (aI cI zg 200 u_6.1 :: aI cI zi 100 u_6.2.1 :: aI cI zw 100 u_6.2.2.1 :: aI cI zo 10000 u_6.2.2.2.1 :: aI cI ze 100 u_107 :: aZ cZ zd 100 gd :: aZ cZ zk 2 gk :: aI cI zt 60 gt :: X) mo zs zv zl zk zt zg zi zw zo ze zd (nI hn) (nI tn) 0 (nI (nS S)) u_111.1 u_111.2.1 u_111.2.2.1 u_111.2.2.2.1 vp va vb vd vq u_111.2.2.2.2 (mxL (hI (fun i h => hI (fun u9 h => hL (fun k => (leapS S S.2.2.1.1 S.2.2.1.2 (if i = 0 then 1 else -1) u9 k).toInt64) 5 h) 2 h) 2 (hI (fun a h => mxI (mxI (hL (fun k => (ledgeS S a k).toInt64) 6 h) (dS S 3 (owS S) a)) (dS S 3 (owS S) a)) (nS S) z3)) (((arcS S 5)).toInt64)) gs S 5 hS0 hWf (by decide)) (cwV 1 hts gX9_digest_X9_heightBehind rfl rfl rfl (by decide +kernel) ⟨Nat.le_of_ble_eq_true rfl, Nat.le_of_ble_eq_true rfl⟩) (As := [.int 5]) (rest := [.ref mo]) (ci := 9) (q0 := 0) rfl rfl rfl hl.1 rfl (Nat.le_of_ble_eq_true rfl) dX9_digest_127 ⟨Nat.le_of_ble_eq_true rfl, Nat.le_of_ble_eq_true rfl⟩ (fun r_127 _ H locs hq hP hD hS => ?_)
                    have hq : r_127 = arcS S 5 := hq
                    subst hq
                    have hP : va_P D vwCl (oX9 mo zs zv (nI hn) zl zk zt (nI tn) 0 zg zi zw (nI (nS S)) zo ze u_111.1 u_111.2.1 u_111.2.2.1 u_111.2.2.2.1 (bI u_111.2.2.2.2) vp va vb vd vq zd (mxL (hI (fun i h => hI (fun u9 h => hL (fun k => (leapS S S.2.2.1.1 S.2.2.1.2 (if i = 0 then 1 else -1) u9 k).toInt64) 5 h) 2 h) 2 (hI (fun a h => mxI (mxI (hL (fun k => (ledgeS S a k).toInt64) 6 h) (dS S 3 (owS S) a)) (dS S 3 (owS S) a)) (nS S) z3)) (((arcS S 5)).toInt64)) :: aI cI zs 28 gs :: aI cI zg 200 u_6.1 :: aI cI zi 100 u_6.2.1 :: aI cI zw 100 u_6.2.2.1 :: aI cI zo 10000 u_6.2.2.2.1 :: aI cI ze 100 u_107 :: aZ cZ zd 100 gd :: aZ cZ zk 2 gk :: aI cI zt 60 gt :: X) H := pm_P hP 10 [0, 1, 2, 3, 4, 5, 6, 7, 8, 9] rfl
                    have hD : va_D A (oX9 mo zs zv (nI hn) zl zk zt (nI tn) 0 zg zi zw (nI (nS S)) zo ze u_111.1 u_111.2.1 u_111.2.2.1 u_111.2.2.2.1 (bI u_111.2.2.2.2) vp va vb vd vq zd (mxL (hI (fun i h => hI (fun u9 h => hL (fun k => (leapS S S.2.2.1.1 S.2.2.1.2 (if i = 0 then 1 else -1) u9 k).toInt64) 5 h) 2 h) 2 (hI (fun a h => mxI (mxI (hL (fun k => (ledgeS S a k).toInt64) 6 h) (dS S 3 (owS S) a)) (dS S 3 (owS S) a)) (nS S) z3)) (((arcS S 5)).toInt64)) :: aI cI zs 28 gs :: aI cI zg 200 u_6.1 :: aI cI zi 100 u_6.2.1 :: aI cI zw 100 u_6.2.2.1 :: aI cI zo 10000 u_6.2.2.2.1 :: aI cI ze 100 u_107 :: aZ cZ zd 100 gd :: aZ cZ zk 2 gk :: aI cI zt 60 gt :: X) := pm_D hD 10 [0, 1, 2, 3, 4, 5, 6, 7, 8, 9] rfl rfl rfl
                    refine lv_i2l (v := ((arcS S 5)).toInt64) hx hb dX9_digest_130 rfl ?_
                    refine cV_v CF hK hN hA hS (cut_of 10 [0, 1, 2, 3, 4, 5, 6, 7, 8, 9] hP hD rfl rfl rfl) (n_mix l D cI cZ cW cJ A (aI cI zs 28 gs :: aI cI zg 200 u_6.1 :: aI cI zi 100 u_6.2.1 :: aI cI zw 100 u_6.2.2.1 :: aI cI zo 10000 u_6.2.2.2.1 :: aI cI ze 100 u_107 :: aZ cZ zd 100 gd :: aZ cZ zk 2 gk :: aI cI zt 60 gt :: X) mo zs zv zl zk zt zg zi zw zo ze zd (nI hn) (nI tn) 0 (nI (nS S)) u_111.1 u_111.2.1 u_111.2.2.1 u_111.2.2.2.1 vp va vb vd vq u_111.2.2.2.2 (mxL (hI (fun i h => hI (fun u9 h => hL (fun k => (leapS S S.2.2.1.1 S.2.2.1.2 (if i = 0 then 1 else -1) u9 k).toInt64) 5 h) 2 h) 2 (hI (fun a h => mxI (mxI (hL (fun k => (ledgeS S a k).toInt64) 6 h) (dS S 3 (owS S) a)) (dS S 3 (owS S) a)) (nS S) z3)) (((arcS S 5)).toInt64)) (((arcS S 5)).toInt64)) (cwV 1 hts gX9_digest_X9_mix rfl rfl rfl (by decide +kernel) ⟨Nat.le_of_ble_eq_true rfl, Nat.le_of_ble_eq_true rfl⟩) (As := [.long (((arcS S 5)).toInt64)]) (rest := []) (ci := 9) (q0 := 0) rfl rfl rfl hl.1 rfl (Nat.le_of_ble_eq_true rfl) dX9_digest_131 ⟨Nat.le_of_ble_eq_true rfl, Nat.le_of_ble_eq_true rfl⟩ (fun _ H locs hq hP hD hS => ?_)
                    have hP : va_P D vwCl (oX9 mo zs zv (nI hn) zl zk zt (nI tn) 0 zg zi zw (nI (nS S)) zo ze u_111.1 u_111.2.1 u_111.2.2.1 u_111.2.2.2.1 (bI u_111.2.2.2.2) vp va vb vd vq zd (mxL (mxL (hI (fun i h => hI (fun u9 h => hL (fun k => (leapS S S.2.2.1.1 S.2.2.1.2 (if i = 0 then 1 else -1) u9 k).toInt64) 5 h) 2 h) 2 (hI (fun a h => mxI (mxI (hL (fun k => (ledgeS S a k).toInt64) 6 h) (dS S 3 (owS S) a)) (dS S 3 (owS S) a)) (nS S) z3)) (((arcS S 5)).toInt64)) (((arcS S 5)).toInt64)) :: aI cI zs 28 gs :: aI cI zg 200 u_6.1 :: aI cI zi 100 u_6.2.1 :: aI cI zw 100 u_6.2.2.1 :: aI cI zo 10000 u_6.2.2.2.1 :: aI cI ze 100 u_107 :: aZ cZ zd 100 gd :: aZ cZ zk 2 gk :: aI cI zt 60 gt :: X) H := pm_P hP 10 [0, 1, 2, 3, 4, 5, 6, 7, 8, 9] rfl
                    have hD : va_D A (oX9 mo zs zv (nI hn) zl zk zt (nI tn) 0 zg zi zw (nI (nS S)) zo ze u_111.1 u_111.2.1 u_111.2.2.1 u_111.2.2.2.1 (bI u_111.2.2.2.2) vp va vb vd vq zd (mxL (mxL (hI (fun i h => hI (fun u9 h => hL (fun k => (leapS S S.2.2.1.1 S.2.2.1.2 (if i = 0 then 1 else -1) u9 k).toInt64) 5 h) 2 h) 2 (hI (fun a h => mxI (mxI (hL (fun k => (ledgeS S a k).toInt64) 6 h) (dS S 3 (owS S) a)) (dS S 3 (owS S) a)) (nS S) z3)) (((arcS S 5)).toInt64)) (((arcS S 5)).toInt64)) :: aI cI zs 28 gs :: aI cI zg 200 u_6.1 :: aI cI zi 100 u_6.2.1 :: aI cI zw 100 u_6.2.2.1 :: aI cI zo 10000 u_6.2.2.2.1 :: aI cI ze 100 u_107 :: aZ cZ zd 100 gd :: aZ cZ zk 2 gk :: aI cI zt 60 gt :: X) := pm_D hD 10 [0, 1, 2, 3, 4, 5, 6, 7, 8, 9] rfl rfl rfl
                    refine lv_iconst (v := 0) hx hb dX9_digest_134 (by decide) ?_
                    refine lv_istore_n (lv' := [(1, .int 0), (0, .ref mo)]) hx hb dX9_digest_135 rfl hl (by decide) rfl (fun ls hl => ?_)
                    have loop_136 : ∀ (nfu : Nat) (k : Nat) (z4 : Int64) (e4 d4 : Nat → Int32) (hn_136 : 3 - k < nfu) (hk : k ≤ 3) (hv4 : z4 = hL (fun k => (onlyS S (nI k)).toInt64) k (mxI (mxI (hI (fun i h => hI (fun u h => hL (fun k => (leapS S S.2.2.1.1 S.2.2.1.2 (if i = 0 then 1 else -1) u k).toInt64) 5 h) 2 h) 2 (hI (fun a h => mxI (mxI (hL (fun k => (ledgeS S a k).toInt64) 6 h) (dS S 3 (owS S) a)) (dS S 3 (owS S) a)) (nS S) z3)) (arcS S 5)) (arcS S 5))) (H : Heap) (locs : List Loc) (hP : va_P D vwCl (oX9 mo zs zv (nI hn) zl zk zt (nI tn) 0 zg zi zw (nI (nS S)) zo ze u_111.1 u_111.2.1 u_111.2.2.1 u_111.2.2.2.1 (bI u_111.2.2.2.2) vp va vb vd vq zd z4 :: aI cI zs 28 gs :: aI cI zg 200 u_6.1 :: aI cI zi 100 u_6.2.1 :: aI cI zw 100 u_6.2.2.1 :: aI cI zo 10000 u_6.2.2.2.1 :: aI cI ze 100 e4 :: aZ cZ zd 100 d4 :: aZ cZ zk 2 gk :: aI cI zt 60 gt :: X) H) (hD : va_D A (oX9 mo zs zv (nI hn) zl zk zt (nI tn) 0 zg zi zw (nI (nS S)) zo ze u_111.1 u_111.2.1 u_111.2.2.1 u_111.2.2.2.1 (bI u_111.2.2.2.2) vp va vb vd vq zd z4 :: aI cI zs 28 gs :: aI cI zg 200 u_6.1 :: aI cI zi 100 u_6.2.1 :: aI cI zw 100 u_6.2.2.1 :: aI cI zo 10000 u_6.2.2.2.1 :: aI cI ze 100 e4 :: aZ cZ zd 100 d4 :: aZ cZ zk 2 gk :: aI cI zt 60 gt :: X)) (hS : va_S A s.heap H locs) (ls : Array Slot) (hl : lv_has ls 2 [(1, .int (nI k)), (0, .ref mo)]), W p l e ({ frames := 8, cells := 0, slots := 0, locals := 186 } : Room) s m (([.ref mo] : List Value).toArray) below meth c H locs 0 0 (MQ below (va_Ql (fun (r : Int64) (u : (Nat → Int32) × (Nat → Int32) × (Nat → Int32) × (Nat → Int32) × (Nat → Int32) × (Nat → Int32) × Int32 × Int32 × Int32 × Int32 × Int32 × Bool × Int64) => r = digS S hn tk tn gt) (fun (u : (Nat → Int32) × (Nat → Int32) × (Nat → Int32) × (Nat → Int32) × (Nat → Int32) × (Nat → Int32) × Int32 × Int32 × Int32 × Int32 × Int32 × Bool × Int64) t => wq D A (oX9 mo zs zv (nI hn) zl zk zt (nI tn) 0 zg zi zw u.2.2.2.2.2.2.1 zo ze u.2.2.2.2.2.2.2.1 u.2.2.2.2.2.2.2.2.1 u.2.2.2.2.2.2.2.2.2.1 u.2.2.2.2.2.2.2.2.2.2.1 (bI u.2.2.2.2.2.2.2.2.2.2.2.1) vp va vb vd vq zd u.2.2.2.2.2.2.2.2.2.2.2.2 :: aI cI zs 28 gs :: aI cI zg 200 u.1 :: aI cI zi 100 u.2.1 :: aI cI zw 100 u.2.2.1 :: aI cI zo 10000 u.2.2.2.1 :: aI cI ze 100 u.2.2.2.2.1 :: aZ cZ zd 100 u.2.2.2.2.2.1 :: aZ cZ zk 2 gk :: aI cI zt 60 gt :: X) t) A) (([.ref mo] : List Value).toArray) s 0 0 A) (F0 m 136 ls []) := by
                      intro nfu
                      induction nfu with
                      | zero => intro k z4 e4 d4 hn_136; exact absurd hn_136 (Nat.not_lt_zero _)
                      | succ nfu ih_136 =>
                        intro k z4 e4 d4 hn_136 hk hv4 H locs hP hD hS ls hl
                        refine lv_iload_n hx hb dX9_digest_136 rfl (lv_at hl 0 rfl) ?_
                        refine lv_iconst (v := 3) hx hb dX9_digest_137 (by decide) ?_
                        refine lv_icmp_ge (tgt := 157) hx hb dX9_digest_138 (by decide) (fun c_138 => ?_) (fun c_138 => ?_)
                        · have hk4 : k = 3 := by have h := le_of_ge (a := 3) (b := k) (by decide) (by omega) c_138; omega
                          refine lv_aload_n hx hb dX9_digest_157 rfl (lv_at hl 1 rfl) ?_
                          refine lv_aload_n hx hb dX9_digest_158 rfl (lv_at hl 1 rfl) ?_
                          refine cV_d CF hK hN hA hS (cut_of 10 [0, 1, 2, 3, 4, 5, 6, 7, 8, 9] hP hD rfl rfl rfl) (n_shareTold l D cI cZ cW cJ A (aZ cZ zd 100 d4 :: aZ cZ zk 2 gk :: aI cI zt 60 gt :: X) mo zs zv zl zk zt zg zi zw zo ze zd (nI hn) (nI tn) 0 u_111.1 u_111.2.1 u_111.2.2.1 u_111.2.2.2.1 vp va vb vd vq u_111.2.2.2.2 z4 gs u_6.1 u_6.2.1 u_6.2.2.1 u_6.2.2.2.1 e4 S hS0 hWf hM hR) (cwV 0 hts gX9_digest_X9_shareTold rfl rfl rfl (by decide +kernel) ⟨Nat.le_of_ble_eq_true rfl, Nat.le_of_ble_eq_true rfl⟩) (As := []) (rest := [.ref mo]) (ci := 9) (q0 := 0) rfl rfl rfl hl.1 rfl (Nat.le_of_ble_eq_true rfl) dX9_digest_159 ⟨Nat.le_of_ble_eq_true rfl, Nat.le_of_ble_eq_true rfl⟩ (fun r_159 u_159 H locs hq hP hD hS => ?_)
                          have hq_159 : r_159 = shareS S ∧ True := hq
                          have hr_159 : r_159 = shareS S := hq_159.1
                          subst hr_159
                          have hP : va_P D vwCl (oX9 mo zs zv (nI hn) zl zk zt (nI tn) 0 zg zi zw (nI (nS S)) zo ze u_111.1 u_111.2.1 u_111.2.2.1 u_111.2.2.2.1 (bI u_111.2.2.2.2) vp va vb vd vq zd z4 :: aI cI zs 28 gs :: aI cI zg 200 u_6.1 :: aI cI zi 100 u_6.2.1 :: aI cI zw 100 u_6.2.2.1 :: aI cI zo 10000 u_6.2.2.2.1 :: aI cI ze 100 u_159 :: aZ cZ zd 100 d4 :: aZ cZ zk 2 gk :: aI cI zt 60 gt :: X) H := pm_P hP 10 [0, 1, 2, 3, 4, 5, 6, 7, 8, 9] rfl
                          have hD : va_D A (oX9 mo zs zv (nI hn) zl zk zt (nI tn) 0 zg zi zw (nI (nS S)) zo ze u_111.1 u_111.2.1 u_111.2.2.1 u_111.2.2.2.1 (bI u_111.2.2.2.2) vp va vb vd vq zd z4 :: aI cI zs 28 gs :: aI cI zg 200 u_6.1 :: aI cI zi 100 u_6.2.1 :: aI cI zw 100 u_6.2.2.1 :: aI cI zo 10000 u_6.2.2.2.1 :: aI cI ze 100 u_159 :: aZ cZ zd 100 d4 :: aZ cZ zk 2 gk :: aI cI zt 60 gt :: X) := pm_D hD 10 [0, 1, 2, 3, 4, 5, 6, 7, 8, 9] rfl rfl rfl
                          refine cS_l CF hK hN hA hS (cut_of 10 [0, 1, 2, 3, 4, 5, 6, 7, 8, 9] hP hD rfl rfl rfl) (n_bitsOf l D cI cZ cW cJ A (oX9 mo zs zv (nI hn) zl zk zt (nI tn) 0 zg zi zw (nI (nS S)) zo ze u_111.1 u_111.2.1 u_111.2.2.1 u_111.2.2.2.1 (bI u_111.2.2.2.2) vp va vb vd vq zd z4 :: aI cI zs 28 gs :: aI cI zg 200 u_6.1 :: aI cI zi 100 u_6.2.1 :: aI cI zw 100 u_6.2.2.1 :: aI cI zo 10000 u_6.2.2.2.1 :: aI cI ze 100 u_159 :: aZ cZ zd 100 d4 :: aZ cZ zk 2 gk :: aI cI zt 60 gt :: X) (shareS S) (shareS_ok hWf)) (va_cwS 1 hts gX9_digest_X9_bitsOf rfl rfl rfl (by decide +kernel) ⟨Nat.le_of_ble_eq_true rfl, Nat.le_of_ble_eq_true rfl⟩) (As := [.double (shareS S)]) (rest := [.ref mo]) rfl hl.1 rfl (Nat.le_of_ble_eq_true rfl) dX9_digest_162 ⟨Nat.le_of_ble_eq_true rfl, Nat.le_of_ble_eq_true rfl⟩ (fun r_162 _ H locs hq hP hD hS => ?_)
                          have hq : r_162 = bosV (shareS S) := hq
                          subst hq
                          have hP : va_P D vwCl (oX9 mo zs zv (nI hn) zl zk zt (nI tn) 0 zg zi zw (nI (nS S)) zo ze u_111.1 u_111.2.1 u_111.2.2.1 u_111.2.2.2.1 (bI u_111.2.2.2.2) vp va vb vd vq zd z4 :: aI cI zs 28 gs :: aI cI zg 200 u_6.1 :: aI cI zi 100 u_6.2.1 :: aI cI zw 100 u_6.2.2.1 :: aI cI zo 10000 u_6.2.2.2.1 :: aI cI ze 100 u_159 :: aZ cZ zd 100 d4 :: aZ cZ zk 2 gk :: aI cI zt 60 gt :: X) H := pm_P hP 10 [0, 1, 2, 3, 4, 5, 6, 7, 8, 9] rfl
                          have hD : va_D A (oX9 mo zs zv (nI hn) zl zk zt (nI tn) 0 zg zi zw (nI (nS S)) zo ze u_111.1 u_111.2.1 u_111.2.2.1 u_111.2.2.2.1 (bI u_111.2.2.2.2) vp va vb vd vq zd z4 :: aI cI zs 28 gs :: aI cI zg 200 u_6.1 :: aI cI zi 100 u_6.2.1 :: aI cI zw 100 u_6.2.2.1 :: aI cI zo 10000 u_6.2.2.2.1 :: aI cI ze 100 u_159 :: aZ cZ zd 100 d4 :: aZ cZ zk 2 gk :: aI cI zt 60 gt :: X) := pm_D hD 10 [0, 1, 2, 3, 4, 5, 6, 7, 8, 9] rfl rfl rfl
                          refine cV_v CF hK hN hA hS (cut_of 10 [0, 1, 2, 3, 4, 5, 6, 7, 8, 9] hP hD rfl rfl rfl) (n_mix l D cI cZ cW cJ A (aI cI zs 28 gs :: aI cI zg 200 u_6.1 :: aI cI zi 100 u_6.2.1 :: aI cI zw 100 u_6.2.2.1 :: aI cI zo 10000 u_6.2.2.2.1 :: aI cI ze 100 u_159 :: aZ cZ zd 100 d4 :: aZ cZ zk 2 gk :: aI cI zt 60 gt :: X) mo zs zv zl zk zt zg zi zw zo ze zd (nI hn) (nI tn) 0 (nI (nS S)) u_111.1 u_111.2.1 u_111.2.2.1 u_111.2.2.2.1 vp va vb vd vq u_111.2.2.2.2 z4 (bosV (shareS S))) (cwV 1 hts gX9_digest_X9_mix rfl rfl rfl (by decide +kernel) ⟨Nat.le_of_ble_eq_true rfl, Nat.le_of_ble_eq_true rfl⟩) (As := [.long (bosV (shareS S))]) (rest := []) (ci := 9) (q0 := 0) rfl rfl rfl hl.1 rfl (Nat.le_of_ble_eq_true rfl) dX9_digest_165 ⟨Nat.le_of_ble_eq_true rfl, Nat.le_of_ble_eq_true rfl⟩ (fun _ H locs hq hP hD hS => ?_)
                          have hP : va_P D vwCl (oX9 mo zs zv (nI hn) zl zk zt (nI tn) 0 zg zi zw (nI (nS S)) zo ze u_111.1 u_111.2.1 u_111.2.2.1 u_111.2.2.2.1 (bI u_111.2.2.2.2) vp va vb vd vq zd (mxL z4 (bosV (shareS S))) :: aI cI zs 28 gs :: aI cI zg 200 u_6.1 :: aI cI zi 100 u_6.2.1 :: aI cI zw 100 u_6.2.2.1 :: aI cI zo 10000 u_6.2.2.2.1 :: aI cI ze 100 u_159 :: aZ cZ zd 100 d4 :: aZ cZ zk 2 gk :: aI cI zt 60 gt :: X) H := pm_P hP 10 [0, 1, 2, 3, 4, 5, 6, 7, 8, 9] rfl
                          have hD : va_D A (oX9 mo zs zv (nI hn) zl zk zt (nI tn) 0 zg zi zw (nI (nS S)) zo ze u_111.1 u_111.2.1 u_111.2.2.1 u_111.2.2.2.1 (bI u_111.2.2.2.2) vp va vb vd vq zd (mxL z4 (bosV (shareS S))) :: aI cI zs 28 gs :: aI cI zg 200 u_6.1 :: aI cI zi 100 u_6.2.1 :: aI cI zw 100 u_6.2.2.1 :: aI cI zo 10000 u_6.2.2.2.1 :: aI cI ze 100 u_159 :: aZ cZ zd 100 d4 :: aZ cZ zk 2 gk :: aI cI zt 60 gt :: X) := pm_D hD 10 [0, 1, 2, 3, 4, 5, 6, 7, 8, 9] rfl rfl rfl
                          refine lv_iconst (v := 0) hx hb dX9_digest_168 (by decide) ?_
                          refine lv_istore_n (lv' := [(1, .int 0), (0, .ref mo)]) hx hb dX9_digest_169 rfl hl (by decide) rfl (fun ls hl => ?_)
                          have loop_170 : ∀ (nfu : Nat) (k : Nat) (z5 : Int64) (hn_170 : 2 - k < nfu) (hk : k ≤ 2) (hv5 : z5 = hL (fun k => if tk k = true then 1 else 0) k (mxL z4 (bosV (shareS S)))) (H : Heap) (locs : List Loc) (hP : va_P D vwCl (oX9 mo zs zv (nI hn) zl zk zt (nI tn) 0 zg zi zw (nI (nS S)) zo ze u_111.1 u_111.2.1 u_111.2.2.1 u_111.2.2.2.1 (bI u_111.2.2.2.2) vp va vb vd vq zd z5 :: aI cI zs 28 gs :: aI cI zg 200 u_6.1 :: aI cI zi 100 u_6.2.1 :: aI cI zw 100 u_6.2.2.1 :: aI cI zo 10000 u_6.2.2.2.1 :: aI cI ze 100 u_159 :: aZ cZ zd 100 d4 :: aZ cZ zk 2 gk :: aI cI zt 60 gt :: X) H) (hD : va_D A (oX9 mo zs zv (nI hn) zl zk zt (nI tn) 0 zg zi zw (nI (nS S)) zo ze u_111.1 u_111.2.1 u_111.2.2.1 u_111.2.2.2.1 (bI u_111.2.2.2.2) vp va vb vd vq zd z5 :: aI cI zs 28 gs :: aI cI zg 200 u_6.1 :: aI cI zi 100 u_6.2.1 :: aI cI zw 100 u_6.2.2.1 :: aI cI zo 10000 u_6.2.2.2.1 :: aI cI ze 100 u_159 :: aZ cZ zd 100 d4 :: aZ cZ zk 2 gk :: aI cI zt 60 gt :: X)) (hS : va_S A s.heap H locs) (ls : Array Slot) (hl : lv_has ls 2 [(1, .int (nI k)), (0, .ref mo)]), W p l e ({ frames := 8, cells := 0, slots := 0, locals := 186 } : Room) s m (([.ref mo] : List Value).toArray) below meth c H locs 0 0 (MQ below (va_Ql (fun (r : Int64) (u : (Nat → Int32) × (Nat → Int32) × (Nat → Int32) × (Nat → Int32) × (Nat → Int32) × (Nat → Int32) × Int32 × Int32 × Int32 × Int32 × Int32 × Bool × Int64) => r = digS S hn tk tn gt) (fun (u : (Nat → Int32) × (Nat → Int32) × (Nat → Int32) × (Nat → Int32) × (Nat → Int32) × (Nat → Int32) × Int32 × Int32 × Int32 × Int32 × Int32 × Bool × Int64) t => wq D A (oX9 mo zs zv (nI hn) zl zk zt (nI tn) 0 zg zi zw u.2.2.2.2.2.2.1 zo ze u.2.2.2.2.2.2.2.1 u.2.2.2.2.2.2.2.2.1 u.2.2.2.2.2.2.2.2.2.1 u.2.2.2.2.2.2.2.2.2.2.1 (bI u.2.2.2.2.2.2.2.2.2.2.2.1) vp va vb vd vq zd u.2.2.2.2.2.2.2.2.2.2.2.2 :: aI cI zs 28 gs :: aI cI zg 200 u.1 :: aI cI zi 100 u.2.1 :: aI cI zw 100 u.2.2.1 :: aI cI zo 10000 u.2.2.2.1 :: aI cI ze 100 u.2.2.2.2.1 :: aZ cZ zd 100 u.2.2.2.2.2.1 :: aZ cZ zk 2 gk :: aI cI zt 60 gt :: X) t) A) (([.ref mo] : List Value).toArray) s 0 0 A) (F0 m 170 ls []) := by
                            intro nfu
                            induction nfu with
                            | zero => intro k z5 hn_170; exact absurd hn_170 (Nat.not_lt_zero _)
                            | succ nfu ih_170 =>
                              intro k z5 hn_170 hk hv5 H locs hP hD hS ls hl
                              refine lv_iload_n hx hb dX9_digest_170 rfl (lv_at hl 0 rfl) ?_
                              refine lv_iconst (v := 2) hx hb dX9_digest_171 (by decide) ?_
                              refine lv_icmp_ge (tgt := 199) hx hb dX9_digest_172 (by decide) (fun c_172 => ?_) (fun c_172 => ?_)
                              · have hk5 : k = 2 := by have h := le_of_ge (a := 2) (b := k) (by decide) (by omega) c_172; omega
                                refine lv_aload_n hx hb dX9_digest_199 rfl (lv_at hl 1 rfl) ?_
                                refine lv_aload_n hx hb dX9_digest_200 rfl (lv_at hl 1 rfl) ?_
                                refine va_get (D := D) (ci := 9) (v := .int (nI tn)) (C := RX9) (T := TX9) (N := 26) hx hb hts hiX9 hown hK hP 0 rfl rfl 6 (by decide) (hts (.fieldLink RX9 143 "LedgeLeapsModel" "length" "I") (List.mem_of_getElem? (i := 6) rfl)) (fun _ h9 => h9) rfl dX9_digest_201 ?_
                                refine lv_i2l (v := ((nI tn)).toInt64) hx hb dX9_digest_204 rfl ?_
                                refine cV_v CF hK hN hA hS (cut_of 10 [0, 1, 2, 3, 4, 5, 6, 7, 8, 9] hP hD rfl rfl rfl) (n_mix l D cI cZ cW cJ A (aI cI zs 28 gs :: aI cI zg 200 u_6.1 :: aI cI zi 100 u_6.2.1 :: aI cI zw 100 u_6.2.2.1 :: aI cI zo 10000 u_6.2.2.2.1 :: aI cI ze 100 u_159 :: aZ cZ zd 100 d4 :: aZ cZ zk 2 gk :: aI cI zt 60 gt :: X) mo zs zv zl zk zt zg zi zw zo ze zd (nI hn) (nI tn) 0 (nI (nS S)) u_111.1 u_111.2.1 u_111.2.2.1 u_111.2.2.2.1 vp va vb vd vq u_111.2.2.2.2 z5 (((nI tn)).toInt64)) (cwV 1 hts gX9_digest_X9_mix rfl rfl rfl (by decide +kernel) ⟨Nat.le_of_ble_eq_true rfl, Nat.le_of_ble_eq_true rfl⟩) (As := [.long (((nI tn)).toInt64)]) (rest := []) (ci := 9) (q0 := 0) rfl rfl rfl hl.1 rfl (Nat.le_of_ble_eq_true rfl) dX9_digest_205 ⟨Nat.le_of_ble_eq_true rfl, Nat.le_of_ble_eq_true rfl⟩ (fun _ H locs hq hP hD hS => ?_)
                                have hP : va_P D vwCl (oX9 mo zs zv (nI hn) zl zk zt (nI tn) 0 zg zi zw (nI (nS S)) zo ze u_111.1 u_111.2.1 u_111.2.2.1 u_111.2.2.2.1 (bI u_111.2.2.2.2) vp va vb vd vq zd (mxL z5 (((nI tn)).toInt64)) :: aI cI zs 28 gs :: aI cI zg 200 u_6.1 :: aI cI zi 100 u_6.2.1 :: aI cI zw 100 u_6.2.2.1 :: aI cI zo 10000 u_6.2.2.2.1 :: aI cI ze 100 u_159 :: aZ cZ zd 100 d4 :: aZ cZ zk 2 gk :: aI cI zt 60 gt :: X) H := pm_P hP 10 [0, 1, 2, 3, 4, 5, 6, 7, 8, 9] rfl
                                have hD : va_D A (oX9 mo zs zv (nI hn) zl zk zt (nI tn) 0 zg zi zw (nI (nS S)) zo ze u_111.1 u_111.2.1 u_111.2.2.1 u_111.2.2.2.1 (bI u_111.2.2.2.2) vp va vb vd vq zd (mxL z5 (((nI tn)).toInt64)) :: aI cI zs 28 gs :: aI cI zg 200 u_6.1 :: aI cI zi 100 u_6.2.1 :: aI cI zw 100 u_6.2.2.1 :: aI cI zo 10000 u_6.2.2.2.1 :: aI cI ze 100 u_159 :: aZ cZ zd 100 d4 :: aZ cZ zk 2 gk :: aI cI zt 60 gt :: X) := pm_D hD 10 [0, 1, 2, 3, 4, 5, 6, 7, 8, 9] rfl rfl rfl
                                refine lv_iconst (v := 0) hx hb dX9_digest_208 (by decide) ?_
                                refine lv_istore_n (lv' := [(1, .int 0), (0, .ref mo)]) hx hb dX9_digest_209 rfl hl (by decide) rfl (fun ls hl => ?_)
                                have loop_210 : ∀ (nfu : Nat) (k : Nat) (z6 : Int64) (hn_210 : tn - k < nfu) (hk : k ≤ tn) (hv6 : z6 = hL (fun k => (gt k).toInt64) k (mxI z5 (nI tn))) (H : Heap) (locs : List Loc) (hP : va_P D vwCl (oX9 mo zs zv (nI hn) zl zk zt (nI tn) 0 zg zi zw (nI (nS S)) zo ze u_111.1 u_111.2.1 u_111.2.2.1 u_111.2.2.2.1 (bI u_111.2.2.2.2) vp va vb vd vq zd z6 :: aI cI zs 28 gs :: aI cI zg 200 u_6.1 :: aI cI zi 100 u_6.2.1 :: aI cI zw 100 u_6.2.2.1 :: aI cI zo 10000 u_6.2.2.2.1 :: aI cI ze 100 u_159 :: aZ cZ zd 100 d4 :: aZ cZ zk 2 gk :: aI cI zt 60 gt :: X) H) (hD : va_D A (oX9 mo zs zv (nI hn) zl zk zt (nI tn) 0 zg zi zw (nI (nS S)) zo ze u_111.1 u_111.2.1 u_111.2.2.1 u_111.2.2.2.1 (bI u_111.2.2.2.2) vp va vb vd vq zd z6 :: aI cI zs 28 gs :: aI cI zg 200 u_6.1 :: aI cI zi 100 u_6.2.1 :: aI cI zw 100 u_6.2.2.1 :: aI cI zo 10000 u_6.2.2.2.1 :: aI cI ze 100 u_159 :: aZ cZ zd 100 d4 :: aZ cZ zk 2 gk :: aI cI zt 60 gt :: X)) (hS : va_S A s.heap H locs) (ls : Array Slot) (hl : lv_has ls 2 [(1, .int (nI k)), (0, .ref mo)]), W p l e ({ frames := 8, cells := 0, slots := 0, locals := 186 } : Room) s m (([.ref mo] : List Value).toArray) below meth c H locs 0 0 (MQ below (va_Ql (fun (r : Int64) (u : (Nat → Int32) × (Nat → Int32) × (Nat → Int32) × (Nat → Int32) × (Nat → Int32) × (Nat → Int32) × Int32 × Int32 × Int32 × Int32 × Int32 × Bool × Int64) => r = digS S hn tk tn gt) (fun (u : (Nat → Int32) × (Nat → Int32) × (Nat → Int32) × (Nat → Int32) × (Nat → Int32) × (Nat → Int32) × Int32 × Int32 × Int32 × Int32 × Int32 × Bool × Int64) t => wq D A (oX9 mo zs zv (nI hn) zl zk zt (nI tn) 0 zg zi zw u.2.2.2.2.2.2.1 zo ze u.2.2.2.2.2.2.2.1 u.2.2.2.2.2.2.2.2.1 u.2.2.2.2.2.2.2.2.2.1 u.2.2.2.2.2.2.2.2.2.2.1 (bI u.2.2.2.2.2.2.2.2.2.2.2.1) vp va vb vd vq zd u.2.2.2.2.2.2.2.2.2.2.2.2 :: aI cI zs 28 gs :: aI cI zg 200 u.1 :: aI cI zi 100 u.2.1 :: aI cI zw 100 u.2.2.1 :: aI cI zo 10000 u.2.2.2.1 :: aI cI ze 100 u.2.2.2.2.1 :: aZ cZ zd 100 u.2.2.2.2.2.1 :: aZ cZ zk 2 gk :: aI cI zt 60 gt :: X) t) A) (([.ref mo] : List Value).toArray) s 0 0 A) (F0 m 210 ls []) := by
                                  intro nfu
                                  induction nfu with
                                  | zero => intro k z6 hn_210; exact absurd hn_210 (Nat.not_lt_zero _)
                                  | succ nfu ih_210 =>
                                    intro k z6 hn_210 hk hv6 H locs hP hD hS ls hl
                                    refine lv_iload_n hx hb dX9_digest_210 rfl (lv_at hl 0 rfl) ?_
                                    refine lv_aload_n hx hb dX9_digest_211 rfl (lv_at hl 1 rfl) ?_
                                    refine va_get (D := D) (ci := 9) (v := .int (nI tn)) (C := RX9) (T := TX9) (N := 26) hx hb hts hiX9 hown hK hP 0 rfl rfl 6 (by decide) (hts (.fieldLink RX9 143 "LedgeLeapsModel" "length" "I") (List.mem_of_getElem? (i := 6) rfl)) (fun _ h9 => h9) rfl dX9_digest_212 ?_
                                    refine lv_icmp_ge (tgt := 235) hx hb dX9_digest_215 (by decide) (fun c_215 => ?_) (fun c_215 => ?_)
                                    · have hk6 : k = tn := by have h := le_of_ge (a := tn) (b := k) (by omega) (by omega) c_215; omega
                                      refine lv_aload_n hx hb dX9_digest_235 rfl (lv_at hl 1 rfl) ?_
                                      refine va_get (D := D) (ci := 9) (v := .long z6) (C := RX9) (T := TX9) (N := 26) hx hb hts hiX9 hown hK hP 0 rfl rfl 25 (by decide) (hts (.fieldLink RX9 239 "LedgeLeapsModel" "hash" "J") (List.mem_of_getElem? (i := 3) rfl)) (fun _ h9 => h9) rfl dX9_digest_236 ?_
                                      exact W.lret (v := z6) hx hb hr (fun t9 ht9 hW9 => ⟨⟨z6, (u_6.1, u_6.2.1, u_6.2.2.1, u_6.2.2.2.1, u_159, d4, (nI (nS S)), u_111.1, u_111.2.1, u_111.2.2.1, u_111.2.2.2.1, u_111.2.2.2.2, z6), rfl, by rw [hv6, hk6, hv5, hk5, hv4, hk4, hz3, hv2, hk2, hv1, hk1]; rfl, by rw [ht9]; exact hP, hD⟩, hS.F ht9⟩) hS.2.2 dX9_digest_239
                                    · have hk3 : k < tn := lt_of_nge (a := tn) (b := k) (by omega) (by omega) c_215
                                      refine lv_aload_n hx hb dX9_digest_218 rfl (lv_at hl 1 rfl) ?_
                                      refine lv_aload_n hx hb dX9_digest_219 rfl (lv_at hl 1 rfl) ?_
                                      refine va_get (D := D) (ci := 9) (v := .ref zt) (C := RX9) (T := TX9) (N := 26) hx hb hts hiX9 hown hK hP 0 rfl rfl 5 (by decide) (hts (.fieldLink RX9 23 "LedgeLeapsModel" "text" "[I") (List.mem_of_getElem? (i := 7) rfl)) (fun _ h9 => h9) rfl dX9_digest_220 ?_
                                      refine lv_iload_n hx hb dX9_digest_223 rfl (lv_at hl 0 rfl) ?_
                                      refine va_iald hx hb hK hP 9 0 rfl rfl (vp_ix (e := k) (rfl) (by omega) (by decide)) dX9_digest_224 ?_
                                      refine top_i (y := (gt k)) (ld_ix (f := gt) (x := (nI k)) (e := k) (n := 60) (rfl) (by omega) (by decide)) ?_
                                      refine lv_i2l (v := ((gt k)).toInt64) hx hb dX9_digest_225 rfl ?_
                                      refine cV_v CF hK hN hA hS (cut_of 10 [0, 1, 2, 3, 4, 5, 6, 7, 8, 9] hP hD rfl rfl rfl) (n_mix l D cI cZ cW cJ A (aI cI zs 28 gs :: aI cI zg 200 u_6.1 :: aI cI zi 100 u_6.2.1 :: aI cI zw 100 u_6.2.2.1 :: aI cI zo 10000 u_6.2.2.2.1 :: aI cI ze 100 u_159 :: aZ cZ zd 100 d4 :: aZ cZ zk 2 gk :: aI cI zt 60 gt :: X) mo zs zv zl zk zt zg zi zw zo ze zd (nI hn) (nI tn) 0 (nI (nS S)) u_111.1 u_111.2.1 u_111.2.2.1 u_111.2.2.2.1 vp va vb vd vq u_111.2.2.2.2 z6 (((gt k)).toInt64)) (cwV 1 hts gX9_digest_X9_mix rfl rfl rfl (by decide +kernel) ⟨Nat.le_of_ble_eq_true rfl, Nat.le_of_ble_eq_true rfl⟩) (As := [.long (((gt k)).toInt64)]) (rest := []) (ci := 9) (q0 := 0) rfl rfl rfl hl.1 rfl (Nat.le_of_ble_eq_true rfl) dX9_digest_226 ⟨Nat.le_of_ble_eq_true rfl, Nat.le_of_ble_eq_true rfl⟩ (fun _ H locs hq hP hD hS => ?_)
                                      have hP : va_P D vwCl (oX9 mo zs zv (nI hn) zl zk zt (nI tn) 0 zg zi zw (nI (nS S)) zo ze u_111.1 u_111.2.1 u_111.2.2.1 u_111.2.2.2.1 (bI u_111.2.2.2.2) vp va vb vd vq zd (mxL z6 (((gt k)).toInt64)) :: aI cI zs 28 gs :: aI cI zg 200 u_6.1 :: aI cI zi 100 u_6.2.1 :: aI cI zw 100 u_6.2.2.1 :: aI cI zo 10000 u_6.2.2.2.1 :: aI cI ze 100 u_159 :: aZ cZ zd 100 d4 :: aZ cZ zk 2 gk :: aI cI zt 60 gt :: X) H := pm_P hP 10 [0, 1, 2, 3, 4, 5, 6, 7, 8, 9] rfl
                                      have hD : va_D A (oX9 mo zs zv (nI hn) zl zk zt (nI tn) 0 zg zi zw (nI (nS S)) zo ze u_111.1 u_111.2.1 u_111.2.2.1 u_111.2.2.2.1 (bI u_111.2.2.2.2) vp va vb vd vq zd (mxL z6 (((gt k)).toInt64)) :: aI cI zs 28 gs :: aI cI zg 200 u_6.1 :: aI cI zi 100 u_6.2.1 :: aI cI zw 100 u_6.2.2.1 :: aI cI zo 10000 u_6.2.2.2.1 :: aI cI ze 100 u_159 :: aZ cZ zd 100 d4 :: aZ cZ zk 2 gk :: aI cI zt 60 gt :: X) := pm_D hD 10 [0, 1, 2, 3, 4, 5, 6, 7, 8, 9] rfl rfl rfl
                                      refine lv_iinc (v := (nI (k + 1))) (lv' := [(1, .int (nI (k + 1))), (0, .ref mo)]) hx hb dX9_digest_229 hl (k := 0) rfl (nI_1 k) (by decide) rfl (fun ls hl => ?_)
                                      refine lv_goto (tgt := 210) hx hb dX9_digest_232 (by decide) ?_
                                      exact ih_210 (k + 1) (mxL z6 (((gt k)).toInt64)) (by omega) (by omega) (by rw [hv6]; exact (hL_s _ _ _).symm) _ _ (hP) (hD) hS _ (lv_sub hl [0, 1] rfl)
                                exact loop_210 _ 0 (mxL z5 (((nI tn)).toInt64)) (Nat.lt_succ_self _) (Nat.zero_le _) (rfl) _ _ hP hD hS _ (lv_sub hl [0, 1] rfl)
                              · have hk3 : k < 2 := lt_of_nge (a := 2) (b := k) (by decide) (by omega) c_172
                                refine lv_aload_n hx hb dX9_digest_175 rfl (lv_at hl 1 rfl) ?_
                                refine lv_aload_n hx hb dX9_digest_176 rfl (lv_at hl 1 rfl) ?_
                                refine va_get (D := D) (ci := 9) (v := .ref zk) (C := RX9) (T := TX9) (N := 26) hx hb hts hiX9 hown hK hP 0 rfl rfl 4 (by decide) (hts (.fieldLink RX9 19 "LedgeLeapsModel" "isKept" "[Z") (List.mem_of_getElem? (i := 5) rfl)) (fun _ h9 => h9) rfl dX9_digest_177 ?_
                                refine lv_iload_n hx hb dX9_digest_180 rfl (lv_at hl 0 rfl) ?_
                                refine va_zald hx hb hK hP 8 1 rfl rfl (vp_ix (e := k) (rfl) (hk3) (by decide)) dX9_digest_181 ?_
                                refine top_i (y := (gk k)) (ld_ix (f := gk) (x := (nI k)) (e := k) (n := 2) (rfl) (hk3) (by decide)) ?_
                                refine top_i (y := (bI (tk k))) (hgk k hk3) ?_
                                refine lv_if_eq (tgt := 189) hx hb dX9_digest_182 (by decide) (fun c_182 => ?_) (fun c_182 => ?_)
                                · refine lv_lconst (v := 0) hx hb dX9_digest_189 (by decide) ?_
                                  refine cV_v CF hK hN hA hS (cut_of 10 [0, 1, 2, 3, 4, 5, 6, 7, 8, 9] hP hD rfl rfl rfl) (n_mix l D cI cZ cW cJ A (aI cI zs 28 gs :: aI cI zg 200 u_6.1 :: aI cI zi 100 u_6.2.1 :: aI cI zw 100 u_6.2.2.1 :: aI cI zo 10000 u_6.2.2.2.1 :: aI cI ze 100 u_159 :: aZ cZ zd 100 d4 :: aZ cZ zk 2 gk :: aI cI zt 60 gt :: X) mo zs zv zl zk zt zg zi zw zo ze zd (nI hn) (nI tn) 0 (nI (nS S)) u_111.1 u_111.2.1 u_111.2.2.1 u_111.2.2.2.1 vp va vb vd vq u_111.2.2.2.2 z5 0) (cwV 1 hts gX9_digest_X9_mix rfl rfl rfl (by decide +kernel) ⟨Nat.le_of_ble_eq_true rfl, Nat.le_of_ble_eq_true rfl⟩) (As := [.long 0]) (rest := []) (ci := 9) (q0 := 0) rfl rfl rfl hl.1 rfl (Nat.le_of_ble_eq_true rfl) dX9_digest_190 ⟨Nat.le_of_ble_eq_true rfl, Nat.le_of_ble_eq_true rfl⟩ (fun _ H locs hq hP hD hS => ?_)
                                  have hP : va_P D vwCl (oX9 mo zs zv (nI hn) zl zk zt (nI tn) 0 zg zi zw (nI (nS S)) zo ze u_111.1 u_111.2.1 u_111.2.2.1 u_111.2.2.2.1 (bI u_111.2.2.2.2) vp va vb vd vq zd (mxL z5 0) :: aI cI zs 28 gs :: aI cI zg 200 u_6.1 :: aI cI zi 100 u_6.2.1 :: aI cI zw 100 u_6.2.2.1 :: aI cI zo 10000 u_6.2.2.2.1 :: aI cI ze 100 u_159 :: aZ cZ zd 100 d4 :: aZ cZ zk 2 gk :: aI cI zt 60 gt :: X) H := pm_P hP 10 [0, 1, 2, 3, 4, 5, 6, 7, 8, 9] rfl
                                  have hD : va_D A (oX9 mo zs zv (nI hn) zl zk zt (nI tn) 0 zg zi zw (nI (nS S)) zo ze u_111.1 u_111.2.1 u_111.2.2.1 u_111.2.2.2.1 (bI u_111.2.2.2.2) vp va vb vd vq zd (mxL z5 0) :: aI cI zs 28 gs :: aI cI zg 200 u_6.1 :: aI cI zi 100 u_6.2.1 :: aI cI zw 100 u_6.2.2.1 :: aI cI zo 10000 u_6.2.2.2.1 :: aI cI ze 100 u_159 :: aZ cZ zd 100 d4 :: aZ cZ zk 2 gk :: aI cI zt 60 gt :: X) := pm_D hD 10 [0, 1, 2, 3, 4, 5, 6, 7, 8, 9] rfl rfl rfl
                                  refine lv_iinc (v := (nI (k + 1))) (lv' := [(1, .int (nI (k + 1))), (0, .ref mo)]) hx hb dX9_digest_193 hl (k := 0) rfl (nI_1 k) (by decide) rfl (fun ls hl => ?_)
                                  refine lv_goto (tgt := 170) hx hb dX9_digest_196 (by decide) ?_
                                  exact ih_170 (k + 1) (mxL z5 0) (by omega) (by omega) (by rw [hv5]; refine Eq.trans ?_ (hL_s _ _ _).symm; show mxL _ _ = mxL _ (if tk k = true then 1 else 0); rw [if_neg (by rw [bf_c c_182]; decide)]) _ _ (hP) (hD) hS _ (lv_sub hl [0, 1] rfl)
                                · refine lv_lconst (v := 1) hx hb dX9_digest_185 (by decide) ?_
                                  refine lv_goto (tgt := 190) hx hb dX9_digest_186 (by decide) ?_
                                  refine cV_v CF hK hN hA hS (cut_of 10 [0, 1, 2, 3, 4, 5, 6, 7, 8, 9] hP hD rfl rfl rfl) (n_mix l D cI cZ cW cJ A (aI cI zs 28 gs :: aI cI zg 200 u_6.1 :: aI cI zi 100 u_6.2.1 :: aI cI zw 100 u_6.2.2.1 :: aI cI zo 10000 u_6.2.2.2.1 :: aI cI ze 100 u_159 :: aZ cZ zd 100 d4 :: aZ cZ zk 2 gk :: aI cI zt 60 gt :: X) mo zs zv zl zk zt zg zi zw zo ze zd (nI hn) (nI tn) 0 (nI (nS S)) u_111.1 u_111.2.1 u_111.2.2.1 u_111.2.2.2.1 vp va vb vd vq u_111.2.2.2.2 z5 1) (cwV 1 hts gX9_digest_X9_mix rfl rfl rfl (by decide +kernel) ⟨Nat.le_of_ble_eq_true rfl, Nat.le_of_ble_eq_true rfl⟩) (As := [.long 1]) (rest := []) (ci := 9) (q0 := 0) rfl rfl rfl hl.1 rfl (Nat.le_of_ble_eq_true rfl) dX9_digest_190 ⟨Nat.le_of_ble_eq_true rfl, Nat.le_of_ble_eq_true rfl⟩ (fun _ H locs hq hP hD hS => ?_)
                                  have hP : va_P D vwCl (oX9 mo zs zv (nI hn) zl zk zt (nI tn) 0 zg zi zw (nI (nS S)) zo ze u_111.1 u_111.2.1 u_111.2.2.1 u_111.2.2.2.1 (bI u_111.2.2.2.2) vp va vb vd vq zd (mxL z5 1) :: aI cI zs 28 gs :: aI cI zg 200 u_6.1 :: aI cI zi 100 u_6.2.1 :: aI cI zw 100 u_6.2.2.1 :: aI cI zo 10000 u_6.2.2.2.1 :: aI cI ze 100 u_159 :: aZ cZ zd 100 d4 :: aZ cZ zk 2 gk :: aI cI zt 60 gt :: X) H := pm_P hP 10 [0, 1, 2, 3, 4, 5, 6, 7, 8, 9] rfl
                                  have hD : va_D A (oX9 mo zs zv (nI hn) zl zk zt (nI tn) 0 zg zi zw (nI (nS S)) zo ze u_111.1 u_111.2.1 u_111.2.2.1 u_111.2.2.2.1 (bI u_111.2.2.2.2) vp va vb vd vq zd (mxL z5 1) :: aI cI zs 28 gs :: aI cI zg 200 u_6.1 :: aI cI zi 100 u_6.2.1 :: aI cI zw 100 u_6.2.2.1 :: aI cI zo 10000 u_6.2.2.2.1 :: aI cI ze 100 u_159 :: aZ cZ zd 100 d4 :: aZ cZ zk 2 gk :: aI cI zt 60 gt :: X) := pm_D hD 10 [0, 1, 2, 3, 4, 5, 6, 7, 8, 9] rfl rfl rfl
                                  refine lv_iinc (v := (nI (k + 1))) (lv' := [(1, .int (nI (k + 1))), (0, .ref mo)]) hx hb dX9_digest_193 hl (k := 0) rfl (nI_1 k) (by decide) rfl (fun ls hl => ?_)
                                  refine lv_goto (tgt := 170) hx hb dX9_digest_196 (by decide) ?_
                                  exact ih_170 (k + 1) (mxL z5 1) (by omega) (by omega) (by rw [hv5]; refine Eq.trans ?_ (hL_s _ _ _).symm; show mxL _ _ = mxL _ (if tk k = true then 1 else 0); rw [if_pos (bt_c c_182)]) _ _ (hP) (hD) hS _ (lv_sub hl [0, 1] rfl)
                          exact loop_170 _ 0 (mxL z4 (bosV (shareS S))) (Nat.lt_succ_self _) (Nat.zero_le _) (rfl) _ _ hP hD hS _ (lv_sub hl [0, 1] rfl)
                        · have hk3 : k < 3 := lt_of_nge (a := 3) (b := k) (by decide) (by omega) c_138
                          refine lv_aload_n hx hb dX9_digest_141 rfl (lv_at hl 1 rfl) ?_
                          refine lv_aload_n hx hb dX9_digest_142 rfl (lv_at hl 1 rfl) ?_
                          refine lv_iload_n hx hb dX9_digest_143 rfl (lv_at hl 0 rfl) ?_
                          refine cV_i CF hK hN hA hS (cut_of 10 [0, 1, 2, 3, 4, 5, 6, 7, 8, 9] hP hD rfl rfl rfl) (n_onlyTold l D cI cZ cW cJ A (aZ cZ zk 2 gk :: aI cI zt 60 gt :: X) mo zs zv zl zk zt zg zi zw zo ze zd (nI hn) (nI tn) 0 u_111.1 u_111.2.1 u_111.2.2.1 u_111.2.2.2.1 vp va vb vd vq u_111.2.2.2.2 z4 gs u_6.1 u_6.2.1 u_6.2.2.1 u_6.2.2.2.1 e4 d4 S (nI k) hS0 hWf hM hR) (cwV 1 hts gX9_digest_X9_onlyTold rfl rfl rfl (by decide +kernel) ⟨Nat.le_of_ble_eq_true rfl, Nat.le_of_ble_eq_true rfl⟩) (As := [.int (nI k)]) (rest := [.ref mo]) (ci := 9) (q0 := 0) rfl rfl rfl hl.1 rfl (Nat.le_of_ble_eq_true rfl) dX9_digest_144 ⟨Nat.le_of_ble_eq_true rfl, Nat.le_of_ble_eq_true rfl⟩ (fun r_144 u_144 H locs hq hP hD hS => ?_)
                          have hq_144 : r_144 = onlyS S (nI k) ∧ True := hq
                          have hr_144 : r_144 = onlyS S (nI k) := hq_144.1
                          subst hr_144
                          have hP : va_P D vwCl (oX9 mo zs zv (nI hn) zl zk zt (nI tn) 0 zg zi zw (nI (nS S)) zo ze u_111.1 u_111.2.1 u_111.2.2.1 u_111.2.2.2.1 (bI u_111.2.2.2.2) vp va vb vd vq zd z4 :: aI cI zs 28 gs :: aI cI zg 200 u_6.1 :: aI cI zi 100 u_6.2.1 :: aI cI zw 100 u_6.2.2.1 :: aI cI zo 10000 u_6.2.2.2.1 :: aI cI ze 100 u_144.1 :: aZ cZ zd 100 u_144.2 :: aZ cZ zk 2 gk :: aI cI zt 60 gt :: X) H := pm_P hP 10 [0, 1, 2, 3, 4, 5, 6, 7, 8, 9] rfl
                          have hD : va_D A (oX9 mo zs zv (nI hn) zl zk zt (nI tn) 0 zg zi zw (nI (nS S)) zo ze u_111.1 u_111.2.1 u_111.2.2.1 u_111.2.2.2.1 (bI u_111.2.2.2.2) vp va vb vd vq zd z4 :: aI cI zs 28 gs :: aI cI zg 200 u_6.1 :: aI cI zi 100 u_6.2.1 :: aI cI zw 100 u_6.2.2.1 :: aI cI zo 10000 u_6.2.2.2.1 :: aI cI ze 100 u_144.1 :: aZ cZ zd 100 u_144.2 :: aZ cZ zk 2 gk :: aI cI zt 60 gt :: X) := pm_D hD 10 [0, 1, 2, 3, 4, 5, 6, 7, 8, 9] rfl rfl rfl
                          refine lv_i2l (v := ((onlyS S (nI k))).toInt64) hx hb dX9_digest_147 rfl ?_
                          refine cV_v CF hK hN hA hS (cut_of 10 [0, 1, 2, 3, 4, 5, 6, 7, 8, 9] hP hD rfl rfl rfl) (n_mix l D cI cZ cW cJ A (aI cI zs 28 gs :: aI cI zg 200 u_6.1 :: aI cI zi 100 u_6.2.1 :: aI cI zw 100 u_6.2.2.1 :: aI cI zo 10000 u_6.2.2.2.1 :: aI cI ze 100 u_144.1 :: aZ cZ zd 100 u_144.2 :: aZ cZ zk 2 gk :: aI cI zt 60 gt :: X) mo zs zv zl zk zt zg zi zw zo ze zd (nI hn) (nI tn) 0 (nI (nS S)) u_111.1 u_111.2.1 u_111.2.2.1 u_111.2.2.2.1 vp va vb vd vq u_111.2.2.2.2 z4 (((onlyS S (nI k))).toInt64)) (cwV 1 hts gX9_digest_X9_mix rfl rfl rfl (by decide +kernel) ⟨Nat.le_of_ble_eq_true rfl, Nat.le_of_ble_eq_true rfl⟩) (As := [.long (((onlyS S (nI k))).toInt64)]) (rest := []) (ci := 9) (q0 := 0) rfl rfl rfl hl.1 rfl (Nat.le_of_ble_eq_true rfl) dX9_digest_148 ⟨Nat.le_of_ble_eq_true rfl, Nat.le_of_ble_eq_true rfl⟩ (fun _ H locs hq hP hD hS => ?_)
                          have hP : va_P D vwCl (oX9 mo zs zv (nI hn) zl zk zt (nI tn) 0 zg zi zw (nI (nS S)) zo ze u_111.1 u_111.2.1 u_111.2.2.1 u_111.2.2.2.1 (bI u_111.2.2.2.2) vp va vb vd vq zd (mxL z4 (((onlyS S (nI k))).toInt64)) :: aI cI zs 28 gs :: aI cI zg 200 u_6.1 :: aI cI zi 100 u_6.2.1 :: aI cI zw 100 u_6.2.2.1 :: aI cI zo 10000 u_6.2.2.2.1 :: aI cI ze 100 u_144.1 :: aZ cZ zd 100 u_144.2 :: aZ cZ zk 2 gk :: aI cI zt 60 gt :: X) H := pm_P hP 10 [0, 1, 2, 3, 4, 5, 6, 7, 8, 9] rfl
                          have hD : va_D A (oX9 mo zs zv (nI hn) zl zk zt (nI tn) 0 zg zi zw (nI (nS S)) zo ze u_111.1 u_111.2.1 u_111.2.2.1 u_111.2.2.2.1 (bI u_111.2.2.2.2) vp va vb vd vq zd (mxL z4 (((onlyS S (nI k))).toInt64)) :: aI cI zs 28 gs :: aI cI zg 200 u_6.1 :: aI cI zi 100 u_6.2.1 :: aI cI zw 100 u_6.2.2.1 :: aI cI zo 10000 u_6.2.2.2.1 :: aI cI ze 100 u_144.1 :: aZ cZ zd 100 u_144.2 :: aZ cZ zk 2 gk :: aI cI zt 60 gt :: X) := pm_D hD 10 [0, 1, 2, 3, 4, 5, 6, 7, 8, 9] rfl rfl rfl
                          refine lv_iinc (v := (nI (k + 1))) (lv' := [(1, .int (nI (k + 1))), (0, .ref mo)]) hx hb dX9_digest_151 hl (k := 0) rfl (nI_1 k) (by decide) rfl (fun ls hl => ?_)
                          refine lv_goto (tgt := 136) hx hb dX9_digest_154 (by decide) ?_
                          exact ih_136 (k + 1) (mxL z4 (((onlyS S (nI k))).toInt64)) u_144.1 u_144.2 (by omega) (by omega) (by rw [hv4]; exact (hL_s _ _ _).symm) _ _ (hP) (hD) hS _ (lv_sub hl [0, 1] rfl)
                    exact loop_136 _ 0 (mxL (mxL (hI (fun i h => hI (fun u9 h => hL (fun k => (leapS S S.2.2.1.1 S.2.2.1.2 (if i = 0 then 1 else -1) u9 k).toInt64) 5 h) 2 h) 2 (hI (fun a h => mxI (mxI (hL (fun k => (ledgeS S a k).toInt64) 6 h) (dS S 3 (owS S) a)) (dS S 3 (owS S) a)) (nS S) z3)) (((arcS S 5)).toInt64)) (((arcS S 5)).toInt64)) u_107 gd (Nat.lt_succ_self _) (Nat.zero_le _) (rfl) _ _ hP hD hS _ (lv_sub hl [0, 1] rfl)
                  · have hk3 : k < 600 := lt_of_nge (a := 600) (b := k) (by decide) (by omega) c_73
                    refine lv_aload_n hx hb dX9_digest_76 rfl (lv_at hl 1 rfl) ?_
                    refine lv_aload_n hx hb dX9_digest_77 rfl (lv_at hl 1 rfl) ?_
                    refine lv_iload_n hx hb dX9_digest_78 rfl (lv_at hl 0 rfl) ?_
                    refine lv_iconst (v := 3) hx hb dX9_digest_79 (by decide) ?_
                    refine lv_idiv hx hb dX9_digest_80 (by decide) ?_
                    refine top_i (y := (nI (k / 3))) (pk_div (by omega) (by decide) (by decide)) ?_
                    refine lv_bipush (v := 20) hx hb dX9_digest_81 (by decide) ?_
                    refine lv_irem hx hb dX9_digest_83 (by decide) ?_
                    refine top_i (y := (nI (k / 3 % 20))) (pk_rem (by omega) (by decide) (by decide)) ?_
                    refine lv_iload_n hx hb dX9_digest_84 rfl (lv_at hl 0 rfl) ?_
                    refine lv_iconst (v := 3) hx hb dX9_digest_85 (by decide) ?_
                    refine lv_idiv hx hb dX9_digest_86 (by decide) ?_
                    refine top_i (y := (nI (k / 3))) (pk_div (by omega) (by decide) (by decide)) ?_
                    refine lv_bipush (v := 20) hx hb dX9_digest_87 (by decide) ?_
                    refine lv_idiv hx hb dX9_digest_89 (by decide) ?_
                    refine top_i (y := (nI (k / 3 / 20))) (pk_div (by omega) (by decide) (by decide)) ?_
                    refine lv_iload_n hx hb dX9_digest_90 rfl (lv_at hl 0 rfl) ?_
                    refine lv_iconst (v := 3) hx hb dX9_digest_91 (by decide) ?_
                    refine lv_irem hx hb dX9_digest_92 (by decide) ?_
                    refine top_i (y := (nI (k % 3))) (pk_rem (by omega) (by decide) (by decide)) ?_
                    refine cV_i CF hK hN hA hS (cut_of 10 [0, 1, 2, 3, 4, 5, 6, 7, 8, 9] hP hD rfl rfl rfl) (n_cellTold l D cI cZ cW cJ A (aI cI zi 100 u_6.2.1 :: aI cI zw 100 u_6.2.2.1 :: aI cI zo 10000 u_6.2.2.2.1 :: aI cI ze 100 e1 :: aZ cZ zd 100 gd :: aZ cZ zk 2 gk :: aI cI zt 60 gt :: X) mo zs zv zl zk zt zg zi zw zo ze zd (nI hn) (nI tn) 0 (nI (nS S)) u_6.2.2.2.2.1 u_6.2.2.2.2.2.1 u_6.2.2.2.2.2.2.1 u_6.2.2.2.2.2.2.2.1 vp va vb vd vq u_6.2.2.2.2.2.2.2.2 z3 gs u_6.1 S (k / 3 % 20) (k / 3 / 20) (k % 3) hS0 hM.1 (by omega) (by omega) (by omega)) (cwV 3 hts gX9_digest_X9_cellTold rfl rfl rfl (by decide +kernel) ⟨Nat.le_of_ble_eq_true rfl, Nat.le_of_ble_eq_true rfl⟩) (As := [.int (nI (k / 3 % 20)), .int (nI (k / 3 / 20)), .int (nI (k % 3))]) (rest := [.ref mo]) (ci := 9) (q0 := 0) rfl rfl rfl hl.1 rfl (Nat.le_of_ble_eq_true rfl) dX9_digest_93 ⟨Nat.le_of_ble_eq_true rfl, Nat.le_of_ble_eq_true rfl⟩ (fun r_93 _ H locs hq hP hD hS => ?_)
                    have hq : r_93 = cellS S (k / 3 % 20) (k / 3 / 20) (k % 3) := hq
                    subst hq
                    have hP : va_P D vwCl (oX9 mo zs zv (nI hn) zl zk zt (nI tn) 0 zg zi zw (nI (nS S)) zo ze u_6.2.2.2.2.1 u_6.2.2.2.2.2.1 u_6.2.2.2.2.2.2.1 u_6.2.2.2.2.2.2.2.1 (bI u_6.2.2.2.2.2.2.2.2) vp va vb vd vq zd z3 :: aI cI zs 28 gs :: aI cI zg 200 u_6.1 :: aI cI zi 100 u_6.2.1 :: aI cI zw 100 u_6.2.2.1 :: aI cI zo 10000 u_6.2.2.2.1 :: aI cI ze 100 e1 :: aZ cZ zd 100 gd :: aZ cZ zk 2 gk :: aI cI zt 60 gt :: X) H := pm_P hP 10 [0, 1, 2, 3, 4, 5, 6, 7, 8, 9] rfl
                    have hD : va_D A (oX9 mo zs zv (nI hn) zl zk zt (nI tn) 0 zg zi zw (nI (nS S)) zo ze u_6.2.2.2.2.1 u_6.2.2.2.2.2.1 u_6.2.2.2.2.2.2.1 u_6.2.2.2.2.2.2.2.1 (bI u_6.2.2.2.2.2.2.2.2) vp va vb vd vq zd z3 :: aI cI zs 28 gs :: aI cI zg 200 u_6.1 :: aI cI zi 100 u_6.2.1 :: aI cI zw 100 u_6.2.2.1 :: aI cI zo 10000 u_6.2.2.2.1 :: aI cI ze 100 e1 :: aZ cZ zd 100 gd :: aZ cZ zk 2 gk :: aI cI zt 60 gt :: X) := pm_D hD 10 [0, 1, 2, 3, 4, 5, 6, 7, 8, 9] rfl rfl rfl
                    refine lv_i2l (v := ((cellS S (k / 3 % 20) (k / 3 / 20) (k % 3))).toInt64) hx hb dX9_digest_96 rfl ?_
                    refine cV_v CF hK hN hA hS (cut_of 10 [0, 1, 2, 3, 4, 5, 6, 7, 8, 9] hP hD rfl rfl rfl) (n_mix l D cI cZ cW cJ A (aI cI zs 28 gs :: aI cI zg 200 u_6.1 :: aI cI zi 100 u_6.2.1 :: aI cI zw 100 u_6.2.2.1 :: aI cI zo 10000 u_6.2.2.2.1 :: aI cI ze 100 e1 :: aZ cZ zd 100 gd :: aZ cZ zk 2 gk :: aI cI zt 60 gt :: X) mo zs zv zl zk zt zg zi zw zo ze zd (nI hn) (nI tn) 0 (nI (nS S)) u_6.2.2.2.2.1 u_6.2.2.2.2.2.1 u_6.2.2.2.2.2.2.1 u_6.2.2.2.2.2.2.2.1 vp va vb vd vq u_6.2.2.2.2.2.2.2.2 z3 (((cellS S (k / 3 % 20) (k / 3 / 20) (k % 3))).toInt64)) (cwV 1 hts gX9_digest_X9_mix rfl rfl rfl (by decide +kernel) ⟨Nat.le_of_ble_eq_true rfl, Nat.le_of_ble_eq_true rfl⟩) (As := [.long (((cellS S (k / 3 % 20) (k / 3 / 20) (k % 3))).toInt64)]) (rest := []) (ci := 9) (q0 := 0) rfl rfl rfl hl.1 rfl (Nat.le_of_ble_eq_true rfl) dX9_digest_97 ⟨Nat.le_of_ble_eq_true rfl, Nat.le_of_ble_eq_true rfl⟩ (fun _ H locs hq hP hD hS => ?_)
                    have hP : va_P D vwCl (oX9 mo zs zv (nI hn) zl zk zt (nI tn) 0 zg zi zw (nI (nS S)) zo ze u_6.2.2.2.2.1 u_6.2.2.2.2.2.1 u_6.2.2.2.2.2.2.1 u_6.2.2.2.2.2.2.2.1 (bI u_6.2.2.2.2.2.2.2.2) vp va vb vd vq zd (mxL z3 (((cellS S (k / 3 % 20) (k / 3 / 20) (k % 3))).toInt64)) :: aI cI zs 28 gs :: aI cI zg 200 u_6.1 :: aI cI zi 100 u_6.2.1 :: aI cI zw 100 u_6.2.2.1 :: aI cI zo 10000 u_6.2.2.2.1 :: aI cI ze 100 e1 :: aZ cZ zd 100 gd :: aZ cZ zk 2 gk :: aI cI zt 60 gt :: X) H := pm_P hP 10 [0, 1, 2, 3, 4, 5, 6, 7, 8, 9] rfl
                    have hD : va_D A (oX9 mo zs zv (nI hn) zl zk zt (nI tn) 0 zg zi zw (nI (nS S)) zo ze u_6.2.2.2.2.1 u_6.2.2.2.2.2.1 u_6.2.2.2.2.2.2.1 u_6.2.2.2.2.2.2.2.1 (bI u_6.2.2.2.2.2.2.2.2) vp va vb vd vq zd (mxL z3 (((cellS S (k / 3 % 20) (k / 3 / 20) (k % 3))).toInt64)) :: aI cI zs 28 gs :: aI cI zg 200 u_6.1 :: aI cI zi 100 u_6.2.1 :: aI cI zw 100 u_6.2.2.1 :: aI cI zo 10000 u_6.2.2.2.1 :: aI cI ze 100 e1 :: aZ cZ zd 100 gd :: aZ cZ zk 2 gk :: aI cI zt 60 gt :: X) := pm_D hD 10 [0, 1, 2, 3, 4, 5, 6, 7, 8, 9] rfl rfl rfl
                    refine lv_iinc (v := (nI (k + 1))) (lv' := [(1, .int (nI (k + 1))), (0, .ref mo)]) hx hb dX9_digest_100 hl (k := 0) rfl (nI_1 k) (by decide) rfl (fun ls hl => ?_)
                    refine lv_goto (tgt := 69) hx hb dX9_digest_103 (by decide) ?_
                    exact ih_69 (k + 1) (mxL z3 (((cellS S (k / 3 % 20) (k / 3 / 20) (k % 3))).toInt64)) (by omega) (by omega) (by rw [hv3]; exact (hL_s _ _ _).symm) _ _ (hP) (hD) hS _ (lv_sub hl [0, 1] rfl)
              exact loop_69 _ 0 z2 (Nat.lt_succ_self _) (Nat.zero_le _) (rfl) _ _ hP hD hS _ (lv_sub hl [0, 1] rfl)
            · have hk3 : k < 3 := lt_of_nge (a := 3) (b := k) (by decide) (by omega) c_44
              refine lv_aload_n hx hb dX9_digest_47 rfl (lv_at hl 1 rfl) ?_
              refine lv_aload_n hx hb dX9_digest_48 rfl (lv_at hl 1 rfl) ?_
              refine va_get (D := D) (ci := 9) (v := .ref zs) (C := RX9) (T := TX9) (N := 26) hx hb hts hiX9 hown hK hP 0 rfl rfl 0 (by decide) (hts (.fieldLink RX9 7 "LedgeLeapsModel" "s" "[I") (List.mem_of_getElem? (i := 4) rfl)) (fun _ h9 => h9) rfl dX9_digest_49 ?_
              refine lv_bipush (v := 20) hx hb dX9_digest_52 (by decide) ?_
              refine lv_iload_n hx hb dX9_digest_54 rfl (lv_at hl 0 rfl) ?_
              refine lv_iadd hx hb dX9_digest_55 ?_
              refine top_i (y := (nI (20 + k))) (nI_add 20 k) ?_
              refine va_iald hx hb hK hP 1 0 rfl rfl (vp_ix (e := (20 + k)) (rfl) (by omega) (by decide)) dX9_digest_56 ?_
              refine top_i (y := (gs (20 + k))) (ld_ix (f := gs) (x := (nI (20 + k))) (e := (20 + k)) (n := 28) (rfl) (by omega) (by decide)) ?_
              refine top_i (y := (setS S k)) (hS0.getS hk3) ?_
              refine lv_i2l (v := ((setS S k)).toInt64) hx hb dX9_digest_57 rfl ?_
              refine cV_v CF hK hN hA hS (cut_of 10 [0, 1, 2, 3, 4, 5, 6, 7, 8, 9] hP hD rfl rfl rfl) (n_mix l D cI cZ cW cJ A (aI cI zs 28 gs :: aI cI zg 200 u_6.1 :: aI cI zi 100 u_6.2.1 :: aI cI zw 100 u_6.2.2.1 :: aI cI zo 10000 u_6.2.2.2.1 :: aI cI ze 100 e1 :: aZ cZ zd 100 gd :: aZ cZ zk 2 gk :: aI cI zt 60 gt :: X) mo zs zv zl zk zt zg zi zw zo ze zd (nI hn) (nI tn) 0 (nI (nS S)) u_6.2.2.2.2.1 u_6.2.2.2.2.2.1 u_6.2.2.2.2.2.2.1 u_6.2.2.2.2.2.2.2.1 vp va vb vd vq u_6.2.2.2.2.2.2.2.2 z2 (((setS S k)).toInt64)) (cwV 1 hts gX9_digest_X9_mix rfl rfl rfl (by decide +kernel) ⟨Nat.le_of_ble_eq_true rfl, Nat.le_of_ble_eq_true rfl⟩) (As := [.long (((setS S k)).toInt64)]) (rest := []) (ci := 9) (q0 := 0) rfl rfl rfl hl.1 rfl (Nat.le_of_ble_eq_true rfl) dX9_digest_58 ⟨Nat.le_of_ble_eq_true rfl, Nat.le_of_ble_eq_true rfl⟩ (fun _ H locs hq hP hD hS => ?_)
              have hP : va_P D vwCl (oX9 mo zs zv (nI hn) zl zk zt (nI tn) 0 zg zi zw (nI (nS S)) zo ze u_6.2.2.2.2.1 u_6.2.2.2.2.2.1 u_6.2.2.2.2.2.2.1 u_6.2.2.2.2.2.2.2.1 (bI u_6.2.2.2.2.2.2.2.2) vp va vb vd vq zd (mxL z2 (((setS S k)).toInt64)) :: aI cI zs 28 gs :: aI cI zg 200 u_6.1 :: aI cI zi 100 u_6.2.1 :: aI cI zw 100 u_6.2.2.1 :: aI cI zo 10000 u_6.2.2.2.1 :: aI cI ze 100 e1 :: aZ cZ zd 100 gd :: aZ cZ zk 2 gk :: aI cI zt 60 gt :: X) H := pm_P hP 10 [0, 1, 2, 3, 4, 5, 6, 7, 8, 9] rfl
              have hD : va_D A (oX9 mo zs zv (nI hn) zl zk zt (nI tn) 0 zg zi zw (nI (nS S)) zo ze u_6.2.2.2.2.1 u_6.2.2.2.2.2.1 u_6.2.2.2.2.2.2.1 u_6.2.2.2.2.2.2.2.1 (bI u_6.2.2.2.2.2.2.2.2) vp va vb vd vq zd (mxL z2 (((setS S k)).toInt64)) :: aI cI zs 28 gs :: aI cI zg 200 u_6.1 :: aI cI zi 100 u_6.2.1 :: aI cI zw 100 u_6.2.2.1 :: aI cI zo 10000 u_6.2.2.2.1 :: aI cI ze 100 e1 :: aZ cZ zd 100 gd :: aZ cZ zk 2 gk :: aI cI zt 60 gt :: X) := pm_D hD 10 [0, 1, 2, 3, 4, 5, 6, 7, 8, 9] rfl rfl rfl
              refine lv_iinc (v := (nI (k + 1))) (lv' := [(1, .int (nI (k + 1))), (0, .ref mo)]) hx hb dX9_digest_61 hl (k := 0) rfl (nI_1 k) (by decide) rfl (fun ls hl => ?_)
              refine lv_goto (tgt := 42) hx hb dX9_digest_64 (by decide) ?_
              exact ih_42 (k + 1) (mxL z2 (((setS S k)).toInt64)) (by omega) (by omega) (by rw [hv2]; exact (hL_s _ _ _).symm) _ _ (hP) (hD) hS _ (lv_sub hl [0, 1] rfl)
        exact loop_42 _ 0 z1 (Nat.lt_succ_self _) (Nat.zero_le _) (rfl) _ _ hP hD hS _ (lv_sub hl [0, 1] rfl)
      · have hk3 : k < 10 := lt_of_nge (a := 10) (b := k) (by decide) (by omega) c_21
        refine lv_aload_n hx hb dX9_digest_24 rfl (lv_at hl 1 rfl) ?_
        refine lv_aload_n hx hb dX9_digest_25 rfl (lv_at hl 1 rfl) ?_
        refine lv_iload_n hx hb dX9_digest_26 rfl (lv_at hl 0 rfl) ?_
        refine cV_i CF hK hN hA hS (cut_of 10 [0, 1, 2, 3, 4, 5, 6, 7, 8, 9] hP hD rfl rfl rfl) (n_countTold l D cI cZ cW cJ A (aZ cZ zd 100 gd :: aZ cZ zk 2 gk :: aI cI zt 60 gt :: X) mo zs zv zl zk zt zg zi zw zo ze zd (nI tn) 0 u_6.2.2.2.2.1 u_6.2.2.2.2.2.1 u_6.2.2.2.2.2.2.1 u_6.2.2.2.2.2.2.2.1 vp va vb vd vq u_6.2.2.2.2.2.2.2.2 z1 hn gs u_6.1 u_6.2.1 u_6.2.2.1 u_6.2.2.2.1 e1 S k hS0 hWf hM hR hk3) (cwV 1 hts gX9_digest_X9_countTold rfl rfl rfl (by decide +kernel) ⟨Nat.le_of_ble_eq_true rfl, Nat.le_of_ble_eq_true rfl⟩) (As := [.int (nI k)]) (rest := [.ref mo]) (ci := 9) (q0 := 0) rfl rfl rfl hl.1 rfl (Nat.le_of_ble_eq_true rfl) dX9_digest_27 ⟨Nat.le_of_ble_eq_true rfl, Nat.le_of_ble_eq_true rfl⟩ (fun r_27 u_27 H locs hq hP hD hS => ?_)
        have hq_27 : r_27 = countS S hn k ∧ True := hq
        have hr_27 : r_27 = countS S hn k := hq_27.1
        subst hr_27
        have hP : va_P D vwCl (oX9 mo zs zv (nI hn) zl zk zt (nI tn) 0 zg zi zw (nI (nS S)) zo ze u_6.2.2.2.2.1 u_6.2.2.2.2.2.1 u_6.2.2.2.2.2.2.1 u_6.2.2.2.2.2.2.2.1 (bI u_6.2.2.2.2.2.2.2.2) vp va vb vd vq zd z1 :: aI cI zs 28 gs :: aI cI zg 200 u_6.1 :: aI cI zi 100 u_6.2.1 :: aI cI zw 100 u_6.2.2.1 :: aI cI zo 10000 u_6.2.2.2.1 :: aI cI ze 100 u_27 :: aZ cZ zd 100 gd :: aZ cZ zk 2 gk :: aI cI zt 60 gt :: X) H := pm_P hP 10 [0, 1, 2, 3, 4, 5, 6, 7, 8, 9] rfl
        have hD : va_D A (oX9 mo zs zv (nI hn) zl zk zt (nI tn) 0 zg zi zw (nI (nS S)) zo ze u_6.2.2.2.2.1 u_6.2.2.2.2.2.1 u_6.2.2.2.2.2.2.1 u_6.2.2.2.2.2.2.2.1 (bI u_6.2.2.2.2.2.2.2.2) vp va vb vd vq zd z1 :: aI cI zs 28 gs :: aI cI zg 200 u_6.1 :: aI cI zi 100 u_6.2.1 :: aI cI zw 100 u_6.2.2.1 :: aI cI zo 10000 u_6.2.2.2.1 :: aI cI ze 100 u_27 :: aZ cZ zd 100 gd :: aZ cZ zk 2 gk :: aI cI zt 60 gt :: X) := pm_D hD 10 [0, 1, 2, 3, 4, 5, 6, 7, 8, 9] rfl rfl rfl
        refine lv_i2l (v := ((countS S hn k)).toInt64) hx hb dX9_digest_30 rfl ?_
        refine cV_v CF hK hN hA hS (cut_of 10 [0, 1, 2, 3, 4, 5, 6, 7, 8, 9] hP hD rfl rfl rfl) (n_mix l D cI cZ cW cJ A (aI cI zs 28 gs :: aI cI zg 200 u_6.1 :: aI cI zi 100 u_6.2.1 :: aI cI zw 100 u_6.2.2.1 :: aI cI zo 10000 u_6.2.2.2.1 :: aI cI ze 100 u_27 :: aZ cZ zd 100 gd :: aZ cZ zk 2 gk :: aI cI zt 60 gt :: X) mo zs zv zl zk zt zg zi zw zo ze zd (nI hn) (nI tn) 0 (nI (nS S)) u_6.2.2.2.2.1 u_6.2.2.2.2.2.1 u_6.2.2.2.2.2.2.1 u_6.2.2.2.2.2.2.2.1 vp va vb vd vq u_6.2.2.2.2.2.2.2.2 z1 (((countS S hn k)).toInt64)) (cwV 1 hts gX9_digest_X9_mix rfl rfl rfl (by decide +kernel) ⟨Nat.le_of_ble_eq_true rfl, Nat.le_of_ble_eq_true rfl⟩) (As := [.long (((countS S hn k)).toInt64)]) (rest := []) (ci := 9) (q0 := 0) rfl rfl rfl hl.1 rfl (Nat.le_of_ble_eq_true rfl) dX9_digest_31 ⟨Nat.le_of_ble_eq_true rfl, Nat.le_of_ble_eq_true rfl⟩ (fun _ H locs hq hP hD hS => ?_)
        have hP : va_P D vwCl (oX9 mo zs zv (nI hn) zl zk zt (nI tn) 0 zg zi zw (nI (nS S)) zo ze u_6.2.2.2.2.1 u_6.2.2.2.2.2.1 u_6.2.2.2.2.2.2.1 u_6.2.2.2.2.2.2.2.1 (bI u_6.2.2.2.2.2.2.2.2) vp va vb vd vq zd (mxL z1 (((countS S hn k)).toInt64)) :: aI cI zs 28 gs :: aI cI zg 200 u_6.1 :: aI cI zi 100 u_6.2.1 :: aI cI zw 100 u_6.2.2.1 :: aI cI zo 10000 u_6.2.2.2.1 :: aI cI ze 100 u_27 :: aZ cZ zd 100 gd :: aZ cZ zk 2 gk :: aI cI zt 60 gt :: X) H := pm_P hP 10 [0, 1, 2, 3, 4, 5, 6, 7, 8, 9] rfl
        have hD : va_D A (oX9 mo zs zv (nI hn) zl zk zt (nI tn) 0 zg zi zw (nI (nS S)) zo ze u_6.2.2.2.2.1 u_6.2.2.2.2.2.1 u_6.2.2.2.2.2.2.1 u_6.2.2.2.2.2.2.2.1 (bI u_6.2.2.2.2.2.2.2.2) vp va vb vd vq zd (mxL z1 (((countS S hn k)).toInt64)) :: aI cI zs 28 gs :: aI cI zg 200 u_6.1 :: aI cI zi 100 u_6.2.1 :: aI cI zw 100 u_6.2.2.1 :: aI cI zo 10000 u_6.2.2.2.1 :: aI cI ze 100 u_27 :: aZ cZ zd 100 gd :: aZ cZ zk 2 gk :: aI cI zt 60 gt :: X) := pm_D hD 10 [0, 1, 2, 3, 4, 5, 6, 7, 8, 9] rfl rfl rfl
        refine lv_iinc (v := (nI (k + 1))) (lv' := [(1, .int (nI (k + 1))), (0, .ref mo)]) hx hb dX9_digest_34 hl (k := 0) rfl (nI_1 k) (by decide) rfl (fun ls hl => ?_)
        refine lv_goto (tgt := 18) hx hb dX9_digest_37 (by decide) ?_
        exact ih_18 (k + 1) (mxL z1 (((countS S hn k)).toInt64)) u_27 (by omega) (by omega) (by rw [hv1]; exact (hL_s _ _ _).symm) _ _ (hP) (hD) hS _ (lv_sub hl [0, 1] rfl)
  exact loop_18 _ 0 3511 ge (Nat.lt_succ_self _) (Nat.zero_le _) (rfl) _ _ hP hD hS _ (lv_sub hl [0, 1] rfl)
set_option maxHeartbeats 4000000 in
set_option maxRecDepth 100000 in
theorem n_build (l : Launch) (D : va_G) (cI cZ cW cJ : ClassId) (A : Nat → Prop) (X : va_W) (mo zs zv zl zk zt zg zi zw zo ze zd : Nat) (vl vh vg vc vr vt vo vp va vb vd vq : Int32) (vm : Bool) (vz : Int64) (hn : Nat) (gs gv : Nat → Int32) (S : KS) (hist : Nat → KS) (xc xr : Int32) (hS0 : AbsM S gs) (hWf : Wf S) (hH : HistM hist hn gv) : Met l yX9_build wsX9_build ({ frames := 5, cells := 0, slots := 0, locals := 109 }) (va_Pc [.ref mo, .int xc, .int xr] (wd D (tyL cI cZ cW cJ) A (oX9 mo zs zv (nI hn) zl zk zt vl vh zg zi zw vg zo ze vc vr vt vo (bI vm) vp va vb vd vq zd vz :: aI cI zs 28 gs :: aI cI zv 168 gv :: X))) (va_Qi (fun (r : Int32) (u : Int32 × Nat × (Nat → Int32) × (Nat → Int32)) => (isCellX xc xr = false ∧ u = (1, hn, gs, gv)) ∨ (isCellX xc xr = true ∧ u.1 = 0 ∧ u.2.1 = pushN hn ∧ r = (buildK S xc.toNatClampNeg xr.toNatClampNeg).2 ∧ AbsM (buildK S xc.toNatClampNeg xr.toNatClampNeg).1 u.2.2.1 ∧ HistM (pushH hist hn S) (pushN hn) u.2.2.2)) (fun (u : Int32 × Nat × (Nat → Int32) × (Nat → Int32)) t => wq D A (oX9 mo zs zv (nI u.2.1) zl zk zt vl u.1 zg zi zw vg zo ze vc vr vt vo (bI vm) vp va vb vd vq zd vz :: aI cI zs 28 u.2.2.1 :: aI cI zv 168 u.2.2.2 :: X) t) A) 0 0 A := by
  refine Met.ofW (cc := cX9_build) (maxL := 3) (ret := (some .int)) (by decide) rfl ?_
  intro p e s m args below meth c s₁ B hml hv
  obtain ⟨rfl, hsz9, hP, hK, hD, hN⟩ := hv
  have hx := B.exec
  have hb := B.bytes
  have hr := B.returns
  have hts := atoms_spec (ws := wsX9_build) B.pre
  have hown : s.vm.findClass RX9 = some m.cls := findClass_of_methodNamed B.named
  have hlocks := B.notSynchronized
  have CF : CallFix p m c cX9_build 3 s _ wsX9_build RX9 := ⟨hx, hb, hml, hown, hts⟩
  have hA : ∀ q : Nat, s.heap.size ≤ q → A q := hsz9
  have hS : va_S A s.heap s.heap [] := va_S.rf
  have hl := lv_entry ([.ref mo, .int xc, .int xr]) (n := 3) (Nat.le_of_ble_eq_true rfl)
  rw [lg_entry_eq]
  generalize (lg_sl ([.ref mo, .int xc, .int xr]) ++ List.replicate (3 - (lg_sl ([.ref mo, .int xc, .int xr])).length) Slot.unset).toArray = ls at hl ⊢
  have hl : lv_has ls 3 [(0, .ref mo), (1, .int xc), (2, .int xr)] := hl
  show W p l e ({ frames := 5, cells := 0, slots := 0, locals := 109 } : Room) s m (([.ref mo, .int xc, .int xr] : List Value).toArray) below meth c s.heap [] 0 0 (MQ below (va_Qi (fun (r : Int32) (u : Int32 × Nat × (Nat → Int32) × (Nat → Int32)) => (isCellX xc xr = false ∧ u = (1, hn, gs, gv)) ∨ (isCellX xc xr = true ∧ u.1 = 0 ∧ u.2.1 = pushN hn ∧ r = (buildK S xc.toNatClampNeg xr.toNatClampNeg).2 ∧ AbsM (buildK S xc.toNatClampNeg xr.toNatClampNeg).1 u.2.2.1 ∧ HistM (pushH hist hn S) (pushN hn) u.2.2.2)) (fun (u : Int32 × Nat × (Nat → Int32) × (Nat → Int32)) t => wq D A (oX9 mo zs zv (nI u.2.1) zl zk zt vl u.1 zg zi zw vg zo ze vc vr vt vo (bI vm) vp va vb vd vq zd vz :: aI cI zs 28 u.2.2.1 :: aI cI zv 168 u.2.2.2 :: X) t) A) (([.ref mo, .int xc, .int xr] : List Value).toArray) s 0 0 A) (F0 m 0 ls [])
  refine lv_aload_n hx hb dX9_build_0 rfl (lv_at hl 0 rfl) ?_
  refine lv_iload_n hx hb dX9_build_1 rfl (lv_at hl 1 rfl) ?_
  refine lv_iload_n hx hb dX9_build_2 rfl (lv_at hl 2 rfl) ?_
  refine cS_i CF hK hN hA hS (cut_of 3 [0, 1, 2] hP hD rfl rfl rfl) (n_isCell l D cI cZ cW cJ A (oX9 mo zs zv (nI hn) zl zk zt vl vh zg zi zw vg zo ze vc vr vt vo (bI vm) vp va vb vd vq zd vz :: aI cI zs 28 gs :: aI cI zv 168 gv :: X) xc xr) (va_cwS 2 hts gX9_build_X9_isCell rfl rfl rfl (by decide +kernel) ⟨Nat.le_of_ble_eq_true rfl, Nat.le_of_ble_eq_true rfl⟩) (As := [.int xc, .int xr]) (rest := [.ref mo]) rfl hl.1 rfl (Nat.le_of_ble_eq_true rfl) dX9_build_3 ⟨Nat.le_of_ble_eq_true rfl, Nat.le_of_ble_eq_true rfl⟩ (fun r_3 _ H locs hq hP hD hS => ?_)
  have hq : r_3 = bI (isCellX xc xr) := hq
  subst hq
  have hP : va_P D vwCl (oX9 mo zs zv (nI hn) zl zk zt vl vh zg zi zw vg zo ze vc vr vt vo (bI vm) vp va vb vd vq zd vz :: aI cI zs 28 gs :: aI cI zv 168 gv :: X) H := pm_P hP 3 [0, 1, 2] rfl
  have hD : va_D A (oX9 mo zs zv (nI hn) zl zk zt vl vh zg zi zw vg zo ze vc vr vt vo (bI vm) vp va vb vd vq zd vz :: aI cI zs 28 gs :: aI cI zv 168 gv :: X) := pm_D hD 3 [0, 1, 2] rfl rfl rfl
  refine lv_if_eq (tgt := 13) hx hb dX9_build_6 (by decide) (fun c_6 => ?_) (fun c_6 => ?_)
  · refine lv_iconst (v := 1) hx hb dX9_build_13 (by decide) ?_
    refine cV_i CF hK hN hA hS (cut_of 3 [0, 1, 2] hP hD rfl rfl rfl) (n_holds l D cI cZ cW cJ A (aI cI zs 28 gs :: aI cI zv 168 gv :: X) mo zs zv zl zk zt zg zi zw zo ze zd (nI hn) vl vh vg vc vr vt vo vp va vb vd vq vm vz 1) (cwV 1 hts gX9_build_X9_holds rfl rfl rfl (by decide +kernel) ⟨Nat.le_of_ble_eq_true rfl, Nat.le_of_ble_eq_true rfl⟩) (As := [.int 1]) (rest := []) (ci := 9) (q0 := 0) rfl rfl rfl hl.1 rfl (Nat.le_of_ble_eq_true rfl) dX9_build_14 ⟨Nat.le_of_ble_eq_true rfl, Nat.le_of_ble_eq_true rfl⟩ (fun r_14 _ H locs hq hP hD hS => ?_)
    have hq : r_14 = bI (decide ((1 : Int32) = 0)) := hq
    subst hq
    have hP : va_P D vwCl (oX9 mo zs zv (nI hn) zl zk zt vl 1 zg zi zw vg zo ze vc vr vt vo (bI vm) vp va vb vd vq zd vz :: aI cI zs 28 gs :: aI cI zv 168 gv :: X) H := pm_P hP 3 [0, 1, 2] rfl
    have hD : va_D A (oX9 mo zs zv (nI hn) zl zk zt vl 1 zg zi zw vg zo ze vc vr vt vo (bI vm) vp va vb vd vq zd vz :: aI cI zs 28 gs :: aI cI zv 168 gv :: X) := pm_D hD 3 [0, 1, 2] rfl rfl rfl
    refine top_i (y := 0) (by decide) ?_
    have c_17 : (0 : Int32) = 0 := by decide
    refine lv_if_ne (tgt := 22) hx hb dX9_build_17 (by decide) (fun q => absurd c_17 q) (fun _ => ?_)
    refine lv_iconst (v := 0) hx hb dX9_build_20 (by decide) ?_
    exact W.iret (v := 0) hx hb hr (fun t9 ht9 hW9 => ⟨⟨0, (1, hn, gs, gv), rfl, Or.inl ⟨bf_c c_6, rfl⟩, by rw [ht9]; exact hP, hD⟩, hS.F ht9⟩) hS.2.2 dX9_build_21
  · refine lv_iconst (v := 0) hx hb dX9_build_9 (by decide) ?_
    refine lv_goto (tgt := 14) hx hb dX9_build_10 (by decide) ?_
    refine cV_i CF hK hN hA hS (cut_of 3 [0, 1, 2] hP hD rfl rfl rfl) (n_holds l D cI cZ cW cJ A (aI cI zs 28 gs :: aI cI zv 168 gv :: X) mo zs zv zl zk zt zg zi zw zo ze zd (nI hn) vl vh vg vc vr vt vo vp va vb vd vq vm vz 0) (cwV 1 hts gX9_build_X9_holds rfl rfl rfl (by decide +kernel) ⟨Nat.le_of_ble_eq_true rfl, Nat.le_of_ble_eq_true rfl⟩) (As := [.int 0]) (rest := []) (ci := 9) (q0 := 0) rfl rfl rfl hl.1 rfl (Nat.le_of_ble_eq_true rfl) dX9_build_14 ⟨Nat.le_of_ble_eq_true rfl, Nat.le_of_ble_eq_true rfl⟩ (fun r_14 _ H locs hq hP hD hS => ?_)
    have hq : r_14 = bI (decide ((0 : Int32) = 0)) := hq
    subst hq
    have hP : va_P D vwCl (oX9 mo zs zv (nI hn) zl zk zt vl 0 zg zi zw vg zo ze vc vr vt vo (bI vm) vp va vb vd vq zd vz :: aI cI zs 28 gs :: aI cI zv 168 gv :: X) H := pm_P hP 3 [0, 1, 2] rfl
    have hD : va_D A (oX9 mo zs zv (nI hn) zl zk zt vl 0 zg zi zw vg zo ze vc vr vt vo (bI vm) vp va vb vd vq zd vz :: aI cI zs 28 gs :: aI cI zv 168 gv :: X) := pm_D hD 3 [0, 1, 2] rfl rfl rfl
    refine top_i (y := 1) (by decide) ?_
    have c_17 : ¬ (1 : Int32) = 0 := by decide
    refine lv_if_ne (tgt := 22) hx hb dX9_build_17 (by decide) (fun _ => ?_) (fun q => absurd q c_17)
    obtain ⟨ac, ar, hac, har, e1, e2⟩ := isCell_nI (bt_c c_6)
    have hK9 : buildK S xc.toNatClampNeg xr.toNatClampNeg = buildK S ac ar := by rw [e1, e2, nI_clamp (by omega), nI_clamp (by omega)]
    refine lv_aload_n hx hb dX9_build_22 rfl (lv_at hl 0 rfl) ?_
    refine cV_v CF hK hN hA hS (cut_of 3 [0, 1, 2] hP hD rfl rfl rfl) (n_save l D cI cZ cW cJ A (X) mo zs zv zl zk zt zg zi zw zo ze zd vl 0 vg vc vr vt vo vp va vb vd vq vm vz hn gs gv S hist hS0 hH) (cwV 0 hts gX9_build_X9_save rfl rfl rfl (by decide +kernel) ⟨Nat.le_of_ble_eq_true rfl, Nat.le_of_ble_eq_true rfl⟩) (As := []) (rest := []) (ci := 9) (q0 := 0) rfl rfl rfl hl.1 rfl (Nat.le_of_ble_eq_true rfl) dX9_build_23 ⟨Nat.le_of_ble_eq_true rfl, Nat.le_of_ble_eq_true rfl⟩ (fun u_23 H locs hq hP hD hS => ?_)
    have hq_23 : HistM (pushH hist hn S) (pushN hn) u_23 := hq
    have hP : va_P D vwCl (oX9 mo zs zv (nI (pushN hn)) zl zk zt vl 0 zg zi zw vg zo ze vc vr vt vo (bI vm) vp va vb vd vq zd vz :: aI cI zs 28 gs :: aI cI zv 168 u_23 :: X) H := pm_P hP 3 [0, 1, 2] rfl
    have hD : va_D A (oX9 mo zs zv (nI (pushN hn)) zl zk zt vl 0 zg zi zw vg zo ze vc vr vt vo (bI vm) vp va vb vd vq zd vz :: aI cI zs 28 gs :: aI cI zv 168 u_23 :: X) := pm_D hD 3 [0, 1, 2] rfl rfl rfl
    refine lv_aload_n hx hb dX9_build_26 rfl (lv_at hl 0 rfl) ?_
    refine lv_iload_n hx hb dX9_build_27 rfl (lv_at hl 1 rfl) ?_
    refine top_i (y := (nI ac)) e1 ?_
    refine lv_iload_n hx hb dX9_build_28 rfl (lv_at hl 2 rfl) ?_
    refine top_i (y := (nI ar)) e2 ?_
    refine cV_i CF hK hN hA hS (cut_of 3 [0, 1, 2] hP hD rfl rfl rfl) (n_doBuild l D cI cZ cW cJ A (aI cI zv 168 u_23 :: X) mo zs zv zl zk zt zg zi zw zo ze zd (nI (pushN hn)) vl 0 vg vc vr vt vo vp va vb vd vq vm vz gs S ac ar hS0 hWf hac har) (cwV 2 hts gX9_build_X9_doBuild rfl rfl rfl (by decide +kernel) ⟨Nat.le_of_ble_eq_true rfl, Nat.le_of_ble_eq_true rfl⟩) (As := [.int (nI ac), .int (nI ar)]) (rest := []) (ci := 9) (q0 := 0) rfl rfl rfl hl.1 rfl (Nat.le_of_ble_eq_true rfl) dX9_build_29 ⟨Nat.le_of_ble_eq_true rfl, Nat.le_of_ble_eq_true rfl⟩ (fun r_29 u_29 H locs hq hP hD hS => ?_)
    have hq_29 : r_29 = (buildK S ac ar).2 ∧ AbsM (buildK S ac ar).1 u_29 := hq
    have hP : va_P D vwCl (oX9 mo zs zv (nI (pushN hn)) zl zk zt vl 0 zg zi zw vg zo ze vc vr vt vo (bI vm) vp va vb vd vq zd vz :: aI cI zs 28 u_29 :: aI cI zv 168 u_23 :: X) H := pm_P hP 3 [0, 1, 2] rfl
    have hD : va_D A (oX9 mo zs zv (nI (pushN hn)) zl zk zt vl 0 zg zi zw vg zo ze vc vr vt vo (bI vm) vp va vb vd vq zd vz :: aI cI zs 28 u_29 :: aI cI zv 168 u_23 :: X) := pm_D hD 3 [0, 1, 2] rfl rfl rfl
    exact W.iret (v := r_29) hx hb hr (fun t9 ht9 hW9 => ⟨⟨r_29, (0, pushN hn, u_29, u_23), rfl, Or.inr ⟨bt_c c_6, rfl, rfl, by rw [hK9]; exact hq_29.1, by rw [hK9]; exact hq_29.2, hq_23⟩, by rw [ht9]; exact hP, hD⟩, hS.F ht9⟩) hS.2.2 dX9_build_32
theorem in_gv {x y : Int32} (h : inX x 1 y = true) : ¬ x < 1 ∧ x ≤ y := by
  unfold inX at h
  split at h
  · cases h
  · rename_i h1
    split at h
    · cases h
    · rename_i h2
      exact ⟨h1, Int32.not_lt.mp h2⟩
theorem out_gv {x y : Int32} (h : inX x 1 y = false) : x < 1 ∨ y < x := by
  unfold inX at h
  split at h
  · rename_i h1; exact Or.inl h1
  · split at h
    · rename_i h2; exact Or.inr h2
    · cases h
theorem in_rng {x : Int32} {k : Nat} (hk : k < 1000) (h : inX x 0 (nI k) = true) : ∃ j : Nat, j < k + 1 ∧ x = nI j := by
  rw [in_nlt x k hk] at h
  split at h
  · cases h
  · rename_i h1
    split at h
    · cases h
    · rename_i h2
      obtain ⟨c, hc, rfl⟩ := nI_of h1
      exact ⟨c, lt_of_nge (a := k + 1) (b := c) (by omega) hc h2, rfl⟩
theorem out_rng {x : Int32} {k : Nat} (hk : k < 1000) (h : inX x 0 (nI k) = false) : x < 0 ∨ nI (k + 1) ≤ x := by
  rw [in_nlt x k hk] at h
  split at h
  · rename_i h1; exact Or.inl h1
  · split at h
    · rename_i h2; exact Or.inr h2
    · cases h
set_option maxHeartbeats 4000000 in
set_option maxRecDepth 100000 in
theorem n_set (l : Launch) (D : va_G) (cI cZ cW cJ : ClassId) (A : Nat → Prop) (X : va_W) (mo zs zv zl zk zt zg zi zw zo ze zd : Nat) (vl vh vg vc vr vt vo vp va vb vd vq : Int32) (vm : Bool) (vz : Int64) (hn : Nat) (gs gv : Nat → Int32) (S : KS) (hist : Nat → KS) (xk xv : Int32) (hS0 : AbsM S gs) (hH : HistM hist hn gv) : Met l yX9_set wsX9_set ({ frames := 2, cells := 0, slots := 0, locals := 45 }) (va_Pc [.ref mo, .int xk, .int xv] (wd D (tyL cI cZ cW cJ) A (oX9 mo zs zv (nI hn) zl zk zt vl vh zg zi zw vg zo ze vc vr vt vo (bI vm) vp va vb vd vq zd vz :: aI cI zs 28 gs :: aI cI zv 168 gv :: X))) (va_Qi (fun (r : Int32) (u : Int32 × Nat × (Nat → Int32) × (Nat → Int32)) => (isSetX xk = false ∧ u = (1, hn, gs, gv)) ∨ (∃ k9 : Nat, k9 < 3 ∧ xk = nI k9 ∧ (xv < 1 ∨ gvI k9 < xv) ∧ u = (2, hn, gs, gv)) ∨ (∃ k9 : Nat, k9 < 3 ∧ xk = nI k9 ∧ ¬ xv < 1 ∧ xv ≤ gvI k9 ∧ u.1 = 0 ∧ u.2.1 = pushN hn ∧ r = setS S k9 ∧ AbsM (putSet S k9 xv) u.2.2.1 ∧ HistM (pushH hist hn S) (pushN hn) u.2.2.2)) (fun (u : Int32 × Nat × (Nat → Int32) × (Nat → Int32)) t => wq D A (oX9 mo zs zv (nI u.2.1) zl zk zt vl u.1 zg zi zw vg zo ze vc vr vt vo (bI vm) vp va vb vd vq zd vz :: aI cI zs 28 u.2.2.1 :: aI cI zv 168 u.2.2.2 :: X) t) A) 0 0 A := by
  refine Met.ofW (cc := cX9_set) (maxL := 4) (ret := (some .int)) (by decide) rfl ?_
  intro p e s m args below meth c s₁ B hml hv
  obtain ⟨rfl, hsz9, hP, hK, hD, hN⟩ := hv
  have hx := B.exec
  have hb := B.bytes
  have hr := B.returns
  have hts := atoms_spec (ws := wsX9_set) B.pre
  have hown : s.vm.findClass RX9 = some m.cls := findClass_of_methodNamed B.named
  have hlocks := B.notSynchronized
  have CF : CallFix p m c cX9_set 4 s _ wsX9_set RX9 := ⟨hx, hb, hml, hown, hts⟩
  have hA : ∀ q : Nat, s.heap.size ≤ q → A q := hsz9
  have hS : va_S A s.heap s.heap [] := va_S.rf
  have hiX9 : ∀ w ∈ u_ws RX9 TX9 26, w ∈ wsX9_set := fun _ h => List.mem_cons_of_mem _ (List.mem_append_right _ (h))
  have hl := lv_entry ([.ref mo, .int xk, .int xv]) (n := 4) (Nat.le_of_ble_eq_true rfl)
  rw [lg_entry_eq]
  generalize (lg_sl ([.ref mo, .int xk, .int xv]) ++ List.replicate (4 - (lg_sl ([.ref mo, .int xk, .int xv])).length) Slot.unset).toArray = ls at hl ⊢
  have hl : lv_has ls 4 [(0, .ref mo), (1, .int xk), (2, .int xv)] := hl
  show W p l e ({ frames := 2, cells := 0, slots := 0, locals := 45 } : Room) s m (([.ref mo, .int xk, .int xv] : List Value).toArray) below meth c s.heap [] 0 0 (MQ below (va_Qi (fun (r : Int32) (u : Int32 × Nat × (Nat → Int32) × (Nat → Int32)) => (isSetX xk = false ∧ u = (1, hn, gs, gv)) ∨ (∃ k9 : Nat, k9 < 3 ∧ xk = nI k9 ∧ (xv < 1 ∨ gvI k9 < xv) ∧ u = (2, hn, gs, gv)) ∨ (∃ k9 : Nat, k9 < 3 ∧ xk = nI k9 ∧ ¬ xv < 1 ∧ xv ≤ gvI k9 ∧ u.1 = 0 ∧ u.2.1 = pushN hn ∧ r = setS S k9 ∧ AbsM (putSet S k9 xv) u.2.2.1 ∧ HistM (pushH hist hn S) (pushN hn) u.2.2.2)) (fun (u : Int32 × Nat × (Nat → Int32) × (Nat → Int32)) t => wq D A (oX9 mo zs zv (nI u.2.1) zl zk zt vl u.1 zg zi zw vg zo ze vc vr vt vo (bI vm) vp va vb vd vq zd vz :: aI cI zs 28 u.2.2.1 :: aI cI zv 168 u.2.2.2 :: X) t) A) (([.ref mo, .int xk, .int xv] : List Value).toArray) s 0 0 A) (F0 m 0 ls [])
  refine lv_aload_n hx hb dX9_set_0 rfl (lv_at hl 0 rfl) ?_
  refine lv_iload_n hx hb dX9_set_1 rfl (lv_at hl 1 rfl) ?_
  refine lv_iconst (v := 0) hx hb dX9_set_2 (by decide) ?_
  refine lv_iconst (v := 2) hx hb dX9_set_3 (by decide) ?_
  refine cS_i CF hK hN hA hS (cut_of 3 [0, 1, 2] hP hD rfl rfl rfl) (n_in l D cI cZ cW cJ A (oX9 mo zs zv (nI hn) zl zk zt vl vh zg zi zw vg zo ze vc vr vt vo (bI vm) vp va vb vd vq zd vz :: aI cI zs 28 gs :: aI cI zv 168 gv :: X) xk 0 2) (va_cwS 3 hts gX9_set_X9_in rfl rfl rfl (by decide +kernel) ⟨Nat.le_of_ble_eq_true rfl, Nat.le_of_ble_eq_true rfl⟩) (As := [.int xk, .int 0, .int 2]) (rest := [.ref mo]) rfl hl.1 rfl (Nat.le_of_ble_eq_true rfl) dX9_set_4 ⟨Nat.le_of_ble_eq_true rfl, Nat.le_of_ble_eq_true rfl⟩ (fun r_4 _ H locs hq hP hD hS => ?_)
  have hq : r_4 = bI (inX xk 0 2) := hq
  subst hq
  have hP : va_P D vwCl (oX9 mo zs zv (nI hn) zl zk zt vl vh zg zi zw vg zo ze vc vr vt vo (bI vm) vp va vb vd vq zd vz :: aI cI zs 28 gs :: aI cI zv 168 gv :: X) H := pm_P hP 3 [0, 1, 2] rfl
  have hD : va_D A (oX9 mo zs zv (nI hn) zl zk zt vl vh zg zi zw vg zo ze vc vr vt vo (bI vm) vp va vb vd vq zd vz :: aI cI zs 28 gs :: aI cI zv 168 gv :: X) := pm_D hD 3 [0, 1, 2] rfl rfl rfl
  refine lv_if_ne (tgt := 14) hx hb dX9_set_7 (by decide) (fun c_7 => ?_) (fun c_7 => ?_)
  · obtain ⟨ks, hks, e1⟩ := isSet_nI (by rw [set_in]; exact bt_c c_7)
    refine lv_iload_n hx hb dX9_set_14 rfl (lv_at hl 2 rfl) ?_
    refine lv_iconst (v := 1) hx hb dX9_set_15 (by decide) ?_
    refine lv_iload_n hx hb dX9_set_16 rfl (lv_at hl 1 rfl) ?_
    refine top_i (y := (nI ks)) e1 ?_
    refine lv_if_ne (tgt := 24) hx hb dX9_set_17 (by decide) (fun c_17 => ?_) (fun c_17 => ?_)
    · refine lv_iconst (v := 5) hx hb dX9_set_24 (by decide) ?_
      refine top_i (y := (gvI ks)) (by unfold gvI; rw [if_neg (fun q => c_17 (by rw [q]; rfl))]) ?_
      refine cS_i CF hK hN hA hS (cut_of 3 [0, 1, 2] hP hD rfl rfl rfl) (n_in l D cI cZ cW cJ A (oX9 mo zs zv (nI hn) zl zk zt vl vh zg zi zw vg zo ze vc vr vt vo (bI vm) vp va vb vd vq zd vz :: aI cI zs 28 gs :: aI cI zv 168 gv :: X) xv 1 (gvI ks)) (va_cwS 3 hts gX9_set_X9_in rfl rfl rfl (by decide +kernel) ⟨Nat.le_of_ble_eq_true rfl, Nat.le_of_ble_eq_true rfl⟩) (As := [.int xv, .int 1, .int (gvI ks)]) (rest := [.ref mo]) rfl hl.1 rfl (Nat.le_of_ble_eq_true rfl) dX9_set_25 ⟨Nat.le_of_ble_eq_true rfl, Nat.le_of_ble_eq_true rfl⟩ (fun r_25 _ H locs hq hP hD hS => ?_)
      have hq : r_25 = bI (inX xv 1 (gvI ks)) := hq
      subst hq
      have hP : va_P D vwCl (oX9 mo zs zv (nI hn) zl zk zt vl vh zg zi zw vg zo ze vc vr vt vo (bI vm) vp va vb vd vq zd vz :: aI cI zs 28 gs :: aI cI zv 168 gv :: X) H := pm_P hP 3 [0, 1, 2] rfl
      have hD : va_D A (oX9 mo zs zv (nI hn) zl zk zt vl vh zg zi zw vg zo ze vc vr vt vo (bI vm) vp va vb vd vq zd vz :: aI cI zs 28 gs :: aI cI zv 168 gv :: X) := pm_D hD 3 [0, 1, 2] rfl rfl rfl
      refine lv_if_ne (tgt := 35) hx hb dX9_set_28 (by decide) (fun c_28 => ?_) (fun c_28 => ?_)
      · refine lv_iconst (v := 0) hx hb dX9_set_35 (by decide) ?_
        refine cV_i CF hK hN hA hS (cut_of 3 [0, 1, 2] hP hD rfl rfl rfl) (n_holds l D cI cZ cW cJ A (aI cI zs 28 gs :: aI cI zv 168 gv :: X) mo zs zv zl zk zt zg zi zw zo ze zd (nI hn) vl vh vg vc vr vt vo vp va vb vd vq vm vz 0) (cwV 1 hts gX9_set_X9_holds rfl rfl rfl (by decide +kernel) ⟨Nat.le_of_ble_eq_true rfl, Nat.le_of_ble_eq_true rfl⟩) (As := [.int 0]) (rest := []) (ci := 9) (q0 := 0) rfl rfl rfl hl.1 rfl (Nat.le_of_ble_eq_true rfl) dX9_set_36 ⟨Nat.le_of_ble_eq_true rfl, Nat.le_of_ble_eq_true rfl⟩ (fun r_36 _ H locs hq hP hD hS => ?_)
        have hq : r_36 = bI (decide ((0 : Int32) = 0)) := hq
        subst hq
        have hP : va_P D vwCl (oX9 mo zs zv (nI hn) zl zk zt vl 0 zg zi zw vg zo ze vc vr vt vo (bI vm) vp va vb vd vq zd vz :: aI cI zs 28 gs :: aI cI zv 168 gv :: X) H := pm_P hP 3 [0, 1, 2] rfl
        have hD : va_D A (oX9 mo zs zv (nI hn) zl zk zt vl 0 zg zi zw vg zo ze vc vr vt vo (bI vm) vp va vb vd vq zd vz :: aI cI zs 28 gs :: aI cI zv 168 gv :: X) := pm_D hD 3 [0, 1, 2] rfl rfl rfl
        refine top_i (y := 1) (by decide) ?_
        have c_39 : ¬ (1 : Int32) = 0 := by decide
        refine lv_if_ne (tgt := 44) hx hb dX9_set_39 (by decide) (fun _ => ?_) (fun q => absurd q c_39)
        refine lv_aload_n hx hb dX9_set_44 rfl (lv_at hl 0 rfl) ?_
        refine cV_v CF hK hN hA hS (cut_of 3 [0, 1, 2] hP hD rfl rfl rfl) (n_save l D cI cZ cW cJ A (X) mo zs zv zl zk zt zg zi zw zo ze zd vl 0 vg vc vr vt vo vp va vb vd vq vm vz hn gs gv S hist hS0 hH) (cwV 0 hts gX9_set_X9_save rfl rfl rfl (by decide +kernel) ⟨Nat.le_of_ble_eq_true rfl, Nat.le_of_ble_eq_true rfl⟩) (As := []) (rest := []) (ci := 9) (q0 := 0) rfl rfl rfl hl.1 rfl (Nat.le_of_ble_eq_true rfl) dX9_set_45 ⟨Nat.le_of_ble_eq_true rfl, Nat.le_of_ble_eq_true rfl⟩ (fun u_45 H locs hq hP hD hS => ?_)
        have hq_45 : HistM (pushH hist hn S) (pushN hn) u_45 := hq
        have hP : va_P D vwCl (oX9 mo zs zv (nI (pushN hn)) zl zk zt vl 0 zg zi zw vg zo ze vc vr vt vo (bI vm) vp va vb vd vq zd vz :: aI cI zs 28 gs :: aI cI zv 168 u_45 :: X) H := pm_P hP 3 [0, 1, 2] rfl
        have hD : va_D A (oX9 mo zs zv (nI (pushN hn)) zl zk zt vl 0 zg zi zw vg zo ze vc vr vt vo (bI vm) vp va vb vd vq zd vz :: aI cI zs 28 gs :: aI cI zv 168 u_45 :: X) := pm_D hD 3 [0, 1, 2] rfl rfl rfl
        refine lv_aload_n hx hb dX9_set_48 rfl (lv_at hl 0 rfl) ?_
        refine va_get (D := D) (ci := 9) (v := .ref zs) (C := RX9) (T := TX9) (N := 26) hx hb hts hiX9 hown hK hP 0 rfl rfl 0 (by decide) (hts (.fieldLink RX9 7 "LedgeLeapsModel" "s" "[I") (List.mem_of_getElem? (i := 1) rfl)) (fun _ h9 => h9) rfl dX9_set_49 ?_
        refine lv_bipush (v := 20) hx hb dX9_set_52 (by decide) ?_
        refine lv_iload_n hx hb dX9_set_54 rfl (lv_at hl 1 rfl) ?_
        refine top_i (y := (nI ks)) e1 ?_
        refine lv_iadd hx hb dX9_set_55 ?_
        refine top_i (y := (nI (20 + ks))) (nI_add 20 ks) ?_
        refine va_iald hx hb hK hP 1 0 rfl rfl (vp_ix (e := (20 + ks)) (rfl) (by omega) (by decide)) dX9_set_56 ?_
        refine top_i (y := (gs (20 + ks))) (ld_ix (f := gs) (x := (nI (20 + ks))) (e := (20 + ks)) (n := 28) (rfl) (by omega) (by decide)) ?_
        refine top_i (y := (setS S ks)) (hS0.getS hks) ?_
        refine lv_istore_n (lv' := [(3, .int (setS S ks)), (0, .ref mo), (1, .int xk), (2, .int xv)]) hx hb dX9_set_57 rfl hl (by decide) rfl (fun ls hl => ?_)
        refine lv_aload_n hx hb dX9_set_58 rfl (lv_at hl 1 rfl) ?_
        refine va_get (D := D) (ci := 9) (v := .ref zs) (C := RX9) (T := TX9) (N := 26) hx hb hts hiX9 hown hK hP 0 rfl rfl 0 (by decide) (hts (.fieldLink RX9 7 "LedgeLeapsModel" "s" "[I") (List.mem_of_getElem? (i := 1) rfl)) (fun _ h9 => h9) rfl dX9_set_59 ?_
        refine lv_bipush (v := 20) hx hb dX9_set_62 (by decide) ?_
        refine lv_iload_n hx hb dX9_set_64 rfl (lv_at hl 2 rfl) ?_
        refine top_i (y := (nI ks)) e1 ?_
        refine lv_iadd hx hb dX9_set_65 ?_
        refine top_i (y := (nI (20 + ks))) (nI_add 20 ks) ?_
        refine lv_iload_n hx hb dX9_set_66 rfl (lv_at hl 3 rfl) ?_
        refine va_iast hx hb hK hP hD hS 1 0 rfl rfl (vp_ix (e := (20 + ks)) (rfl) (by omega) (by decide)) dX9_set_67 (fun H locs hP hD hS => ?_)
        rw [cl_ix (x := (nI (20 + ks))) (e := (20 + ks)) (n := 28) (rfl) (by omega) (by decide)] at hP hD
        have hP : va_P D vwCl (oX9 mo zs zv (nI (pushN hn)) zl zk zt vl 0 zg zi zw vg zo ze vc vr vt vo (bI vm) vp va vb vd vq zd vz :: aI cI zs 28 (upd gs (20 + ks) xv) :: aI cI zv 168 u_45 :: X) H := hP
        have hD : va_D A (oX9 mo zs zv (nI (pushN hn)) zl zk zt vl 0 zg zi zw vg zo ze vc vr vt vo (bI vm) vp va vb vd vq zd vz :: aI cI zs 28 (upd gs (20 + ks) xv) :: aI cI zv 168 u_45 :: X) := hD
        refine lv_iload_n hx hb dX9_set_68 rfl (lv_at hl 0 rfl) ?_
        exact W.iret (v := (setS S ks)) hx hb hr (fun t9 ht9 hW9 => ⟨⟨(setS S ks), (0, pushN hn, (upd gs (20 + ks) xv), u_45), rfl, Or.inr (Or.inr ⟨ks, hks, e1, (in_gv (bt_c c_28)).1, (in_gv (bt_c c_28)).2, rfl, rfl, rfl, hS0.set hks xv, hq_45⟩), by rw [ht9]; exact hP, hD⟩, hS.F ht9⟩) hS.2.2 dX9_set_69
      · refine lv_iconst (v := 2) hx hb dX9_set_31 (by decide) ?_
        refine lv_goto (tgt := 36) hx hb dX9_set_32 (by decide) ?_
        refine cV_i CF hK hN hA hS (cut_of 3 [0, 1, 2] hP hD rfl rfl rfl) (n_holds l D cI cZ cW cJ A (aI cI zs 28 gs :: aI cI zv 168 gv :: X) mo zs zv zl zk zt zg zi zw zo ze zd (nI hn) vl vh vg vc vr vt vo vp va vb vd vq vm vz 2) (cwV 1 hts gX9_set_X9_holds rfl rfl rfl (by decide +kernel) ⟨Nat.le_of_ble_eq_true rfl, Nat.le_of_ble_eq_true rfl⟩) (As := [.int 2]) (rest := []) (ci := 9) (q0 := 0) rfl rfl rfl hl.1 rfl (Nat.le_of_ble_eq_true rfl) dX9_set_36 ⟨Nat.le_of_ble_eq_true rfl, Nat.le_of_ble_eq_true rfl⟩ (fun r_36 _ H locs hq hP hD hS => ?_)
        have hq : r_36 = bI (decide ((2 : Int32) = 0)) := hq
        subst hq
        have hP : va_P D vwCl (oX9 mo zs zv (nI hn) zl zk zt vl 2 zg zi zw vg zo ze vc vr vt vo (bI vm) vp va vb vd vq zd vz :: aI cI zs 28 gs :: aI cI zv 168 gv :: X) H := pm_P hP 3 [0, 1, 2] rfl
        have hD : va_D A (oX9 mo zs zv (nI hn) zl zk zt vl 2 zg zi zw vg zo ze vc vr vt vo (bI vm) vp va vb vd vq zd vz :: aI cI zs 28 gs :: aI cI zv 168 gv :: X) := pm_D hD 3 [0, 1, 2] rfl rfl rfl
        refine top_i (y := 0) (by decide) ?_
        have c_39 : (0 : Int32) = 0 := by decide
        refine lv_if_ne (tgt := 44) hx hb dX9_set_39 (by decide) (fun q => absurd c_39 q) (fun _ => ?_)
        refine lv_iconst (v := 0) hx hb dX9_set_42 (by decide) ?_
        exact W.iret (v := 0) hx hb hr (fun t9 ht9 hW9 => ⟨⟨0, (2, hn, gs, gv), rfl, Or.inr (Or.inl ⟨ks, hks, e1, out_gv (bf_c c_28), rfl⟩), by rw [ht9]; exact hP, hD⟩, hS.F ht9⟩) hS.2.2 dX9_set_43
    · refine lv_iconst (v := 4) hx hb dX9_set_20 (by decide) ?_
      refine top_i (y := (gvI ks)) (by rw [show ks = 0 from nI_inj (by omega) (by decide) c_17]; rfl) ?_
      refine lv_goto (tgt := 25) hx hb dX9_set_21 (by decide) ?_
      refine cS_i CF hK hN hA hS (cut_of 3 [0, 1, 2] hP hD rfl rfl rfl) (n_in l D cI cZ cW cJ A (oX9 mo zs zv (nI hn) zl zk zt vl vh zg zi zw vg zo ze vc vr vt vo (bI vm) vp va vb vd vq zd vz :: aI cI zs 28 gs :: aI cI zv 168 gv :: X) xv 1 (gvI ks)) (va_cwS 3 hts gX9_set_X9_in rfl rfl rfl (by decide +kernel) ⟨Nat.le_of_ble_eq_true rfl, Nat.le_of_ble_eq_true rfl⟩) (As := [.int xv, .int 1, .int (gvI ks)]) (rest := [.ref mo]) rfl hl.1 rfl (Nat.le_of_ble_eq_true rfl) dX9_set_25 ⟨Nat.le_of_ble_eq_true rfl, Nat.le_of_ble_eq_true rfl⟩ (fun r_25 _ H locs hq hP hD hS => ?_)
      have hq : r_25 = bI (inX xv 1 (gvI ks)) := hq
      subst hq
      have hP : va_P D vwCl (oX9 mo zs zv (nI hn) zl zk zt vl vh zg zi zw vg zo ze vc vr vt vo (bI vm) vp va vb vd vq zd vz :: aI cI zs 28 gs :: aI cI zv 168 gv :: X) H := pm_P hP 3 [0, 1, 2] rfl
      have hD : va_D A (oX9 mo zs zv (nI hn) zl zk zt vl vh zg zi zw vg zo ze vc vr vt vo (bI vm) vp va vb vd vq zd vz :: aI cI zs 28 gs :: aI cI zv 168 gv :: X) := pm_D hD 3 [0, 1, 2] rfl rfl rfl
      refine lv_if_ne (tgt := 35) hx hb dX9_set_28 (by decide) (fun c_28 => ?_) (fun c_28 => ?_)
      · refine lv_iconst (v := 0) hx hb dX9_set_35 (by decide) ?_
        refine cV_i CF hK hN hA hS (cut_of 3 [0, 1, 2] hP hD rfl rfl rfl) (n_holds l D cI cZ cW cJ A (aI cI zs 28 gs :: aI cI zv 168 gv :: X) mo zs zv zl zk zt zg zi zw zo ze zd (nI hn) vl vh vg vc vr vt vo vp va vb vd vq vm vz 0) (cwV 1 hts gX9_set_X9_holds rfl rfl rfl (by decide +kernel) ⟨Nat.le_of_ble_eq_true rfl, Nat.le_of_ble_eq_true rfl⟩) (As := [.int 0]) (rest := []) (ci := 9) (q0 := 0) rfl rfl rfl hl.1 rfl (Nat.le_of_ble_eq_true rfl) dX9_set_36 ⟨Nat.le_of_ble_eq_true rfl, Nat.le_of_ble_eq_true rfl⟩ (fun r_36 _ H locs hq hP hD hS => ?_)
        have hq : r_36 = bI (decide ((0 : Int32) = 0)) := hq
        subst hq
        have hP : va_P D vwCl (oX9 mo zs zv (nI hn) zl zk zt vl 0 zg zi zw vg zo ze vc vr vt vo (bI vm) vp va vb vd vq zd vz :: aI cI zs 28 gs :: aI cI zv 168 gv :: X) H := pm_P hP 3 [0, 1, 2] rfl
        have hD : va_D A (oX9 mo zs zv (nI hn) zl zk zt vl 0 zg zi zw vg zo ze vc vr vt vo (bI vm) vp va vb vd vq zd vz :: aI cI zs 28 gs :: aI cI zv 168 gv :: X) := pm_D hD 3 [0, 1, 2] rfl rfl rfl
        refine top_i (y := 1) (by decide) ?_
        have c_39 : ¬ (1 : Int32) = 0 := by decide
        refine lv_if_ne (tgt := 44) hx hb dX9_set_39 (by decide) (fun _ => ?_) (fun q => absurd q c_39)
        refine lv_aload_n hx hb dX9_set_44 rfl (lv_at hl 0 rfl) ?_
        refine cV_v CF hK hN hA hS (cut_of 3 [0, 1, 2] hP hD rfl rfl rfl) (n_save l D cI cZ cW cJ A (X) mo zs zv zl zk zt zg zi zw zo ze zd vl 0 vg vc vr vt vo vp va vb vd vq vm vz hn gs gv S hist hS0 hH) (cwV 0 hts gX9_set_X9_save rfl rfl rfl (by decide +kernel) ⟨Nat.le_of_ble_eq_true rfl, Nat.le_of_ble_eq_true rfl⟩) (As := []) (rest := []) (ci := 9) (q0 := 0) rfl rfl rfl hl.1 rfl (Nat.le_of_ble_eq_true rfl) dX9_set_45 ⟨Nat.le_of_ble_eq_true rfl, Nat.le_of_ble_eq_true rfl⟩ (fun u_45 H locs hq hP hD hS => ?_)
        have hq_45 : HistM (pushH hist hn S) (pushN hn) u_45 := hq
        have hP : va_P D vwCl (oX9 mo zs zv (nI (pushN hn)) zl zk zt vl 0 zg zi zw vg zo ze vc vr vt vo (bI vm) vp va vb vd vq zd vz :: aI cI zs 28 gs :: aI cI zv 168 u_45 :: X) H := pm_P hP 3 [0, 1, 2] rfl
        have hD : va_D A (oX9 mo zs zv (nI (pushN hn)) zl zk zt vl 0 zg zi zw vg zo ze vc vr vt vo (bI vm) vp va vb vd vq zd vz :: aI cI zs 28 gs :: aI cI zv 168 u_45 :: X) := pm_D hD 3 [0, 1, 2] rfl rfl rfl
        refine lv_aload_n hx hb dX9_set_48 rfl (lv_at hl 0 rfl) ?_
        refine va_get (D := D) (ci := 9) (v := .ref zs) (C := RX9) (T := TX9) (N := 26) hx hb hts hiX9 hown hK hP 0 rfl rfl 0 (by decide) (hts (.fieldLink RX9 7 "LedgeLeapsModel" "s" "[I") (List.mem_of_getElem? (i := 1) rfl)) (fun _ h9 => h9) rfl dX9_set_49 ?_
        refine lv_bipush (v := 20) hx hb dX9_set_52 (by decide) ?_
        refine lv_iload_n hx hb dX9_set_54 rfl (lv_at hl 1 rfl) ?_
        refine top_i (y := (nI ks)) e1 ?_
        refine lv_iadd hx hb dX9_set_55 ?_
        refine top_i (y := (nI (20 + ks))) (nI_add 20 ks) ?_
        refine va_iald hx hb hK hP 1 0 rfl rfl (vp_ix (e := (20 + ks)) (rfl) (by omega) (by decide)) dX9_set_56 ?_
        refine top_i (y := (gs (20 + ks))) (ld_ix (f := gs) (x := (nI (20 + ks))) (e := (20 + ks)) (n := 28) (rfl) (by omega) (by decide)) ?_
        refine top_i (y := (setS S ks)) (hS0.getS hks) ?_
        refine lv_istore_n (lv' := [(3, .int (setS S ks)), (0, .ref mo), (1, .int xk), (2, .int xv)]) hx hb dX9_set_57 rfl hl (by decide) rfl (fun ls hl => ?_)
        refine lv_aload_n hx hb dX9_set_58 rfl (lv_at hl 1 rfl) ?_
        refine va_get (D := D) (ci := 9) (v := .ref zs) (C := RX9) (T := TX9) (N := 26) hx hb hts hiX9 hown hK hP 0 rfl rfl 0 (by decide) (hts (.fieldLink RX9 7 "LedgeLeapsModel" "s" "[I") (List.mem_of_getElem? (i := 1) rfl)) (fun _ h9 => h9) rfl dX9_set_59 ?_
        refine lv_bipush (v := 20) hx hb dX9_set_62 (by decide) ?_
        refine lv_iload_n hx hb dX9_set_64 rfl (lv_at hl 2 rfl) ?_
        refine top_i (y := (nI ks)) e1 ?_
        refine lv_iadd hx hb dX9_set_65 ?_
        refine top_i (y := (nI (20 + ks))) (nI_add 20 ks) ?_
        refine lv_iload_n hx hb dX9_set_66 rfl (lv_at hl 3 rfl) ?_
        refine va_iast hx hb hK hP hD hS 1 0 rfl rfl (vp_ix (e := (20 + ks)) (rfl) (by omega) (by decide)) dX9_set_67 (fun H locs hP hD hS => ?_)
        rw [cl_ix (x := (nI (20 + ks))) (e := (20 + ks)) (n := 28) (rfl) (by omega) (by decide)] at hP hD
        have hP : va_P D vwCl (oX9 mo zs zv (nI (pushN hn)) zl zk zt vl 0 zg zi zw vg zo ze vc vr vt vo (bI vm) vp va vb vd vq zd vz :: aI cI zs 28 (upd gs (20 + ks) xv) :: aI cI zv 168 u_45 :: X) H := hP
        have hD : va_D A (oX9 mo zs zv (nI (pushN hn)) zl zk zt vl 0 zg zi zw vg zo ze vc vr vt vo (bI vm) vp va vb vd vq zd vz :: aI cI zs 28 (upd gs (20 + ks) xv) :: aI cI zv 168 u_45 :: X) := hD
        refine lv_iload_n hx hb dX9_set_68 rfl (lv_at hl 0 rfl) ?_
        exact W.iret (v := (setS S ks)) hx hb hr (fun t9 ht9 hW9 => ⟨⟨(setS S ks), (0, pushN hn, (upd gs (20 + ks) xv), u_45), rfl, Or.inr (Or.inr ⟨ks, hks, e1, (in_gv (bt_c c_28)).1, (in_gv (bt_c c_28)).2, rfl, rfl, rfl, hS0.set hks xv, hq_45⟩), by rw [ht9]; exact hP, hD⟩, hS.F ht9⟩) hS.2.2 dX9_set_69
      · refine lv_iconst (v := 2) hx hb dX9_set_31 (by decide) ?_
        refine lv_goto (tgt := 36) hx hb dX9_set_32 (by decide) ?_
        refine cV_i CF hK hN hA hS (cut_of 3 [0, 1, 2] hP hD rfl rfl rfl) (n_holds l D cI cZ cW cJ A (aI cI zs 28 gs :: aI cI zv 168 gv :: X) mo zs zv zl zk zt zg zi zw zo ze zd (nI hn) vl vh vg vc vr vt vo vp va vb vd vq vm vz 2) (cwV 1 hts gX9_set_X9_holds rfl rfl rfl (by decide +kernel) ⟨Nat.le_of_ble_eq_true rfl, Nat.le_of_ble_eq_true rfl⟩) (As := [.int 2]) (rest := []) (ci := 9) (q0 := 0) rfl rfl rfl hl.1 rfl (Nat.le_of_ble_eq_true rfl) dX9_set_36 ⟨Nat.le_of_ble_eq_true rfl, Nat.le_of_ble_eq_true rfl⟩ (fun r_36 _ H locs hq hP hD hS => ?_)
        have hq : r_36 = bI (decide ((2 : Int32) = 0)) := hq
        subst hq
        have hP : va_P D vwCl (oX9 mo zs zv (nI hn) zl zk zt vl 2 zg zi zw vg zo ze vc vr vt vo (bI vm) vp va vb vd vq zd vz :: aI cI zs 28 gs :: aI cI zv 168 gv :: X) H := pm_P hP 3 [0, 1, 2] rfl
        have hD : va_D A (oX9 mo zs zv (nI hn) zl zk zt vl 2 zg zi zw vg zo ze vc vr vt vo (bI vm) vp va vb vd vq zd vz :: aI cI zs 28 gs :: aI cI zv 168 gv :: X) := pm_D hD 3 [0, 1, 2] rfl rfl rfl
        refine top_i (y := 0) (by decide) ?_
        have c_39 : (0 : Int32) = 0 := by decide
        refine lv_if_ne (tgt := 44) hx hb dX9_set_39 (by decide) (fun q => absurd c_39 q) (fun _ => ?_)
        refine lv_iconst (v := 0) hx hb dX9_set_42 (by decide) ?_
        exact W.iret (v := 0) hx hb hr (fun t9 ht9 hW9 => ⟨⟨0, (2, hn, gs, gv), rfl, Or.inr (Or.inl ⟨ks, hks, e1, out_gv (bf_c c_28), rfl⟩), by rw [ht9]; exact hP, hD⟩, hS.F ht9⟩) hS.2.2 dX9_set_43
  · refine lv_iconst (v := 1) hx hb dX9_set_10 (by decide) ?_
    refine lv_goto (tgt := 36) hx hb dX9_set_11 (by decide) ?_
    refine cV_i CF hK hN hA hS (cut_of 3 [0, 1, 2] hP hD rfl rfl rfl) (n_holds l D cI cZ cW cJ A (aI cI zs 28 gs :: aI cI zv 168 gv :: X) mo zs zv zl zk zt zg zi zw zo ze zd (nI hn) vl vh vg vc vr vt vo vp va vb vd vq vm vz 1) (cwV 1 hts gX9_set_X9_holds rfl rfl rfl (by decide +kernel) ⟨Nat.le_of_ble_eq_true rfl, Nat.le_of_ble_eq_true rfl⟩) (As := [.int 1]) (rest := []) (ci := 9) (q0 := 0) rfl rfl rfl hl.1 rfl (Nat.le_of_ble_eq_true rfl) dX9_set_36 ⟨Nat.le_of_ble_eq_true rfl, Nat.le_of_ble_eq_true rfl⟩ (fun r_36 _ H locs hq hP hD hS => ?_)
    have hq : r_36 = bI (decide ((1 : Int32) = 0)) := hq
    subst hq
    have hP : va_P D vwCl (oX9 mo zs zv (nI hn) zl zk zt vl 1 zg zi zw vg zo ze vc vr vt vo (bI vm) vp va vb vd vq zd vz :: aI cI zs 28 gs :: aI cI zv 168 gv :: X) H := pm_P hP 3 [0, 1, 2] rfl
    have hD : va_D A (oX9 mo zs zv (nI hn) zl zk zt vl 1 zg zi zw vg zo ze vc vr vt vo (bI vm) vp va vb vd vq zd vz :: aI cI zs 28 gs :: aI cI zv 168 gv :: X) := pm_D hD 3 [0, 1, 2] rfl rfl rfl
    refine top_i (y := 0) (by decide) ?_
    have c_39 : (0 : Int32) = 0 := by decide
    refine lv_if_ne (tgt := 44) hx hb dX9_set_39 (by decide) (fun q => absurd c_39 q) (fun _ => ?_)
    refine lv_iconst (v := 0) hx hb dX9_set_42 (by decide) ?_
    exact W.iret (v := 0) hx hb hr (fun t9 ht9 hW9 => ⟨⟨0, (1, hn, gs, gv), rfl, Or.inl ⟨by rw [set_in]; exact bf_c c_7, rfl⟩, by rw [ht9]; exact hP, hD⟩, hS.F ht9⟩) hS.2.2 dX9_set_43
set_option maxHeartbeats 4000000 in
set_option maxRecDepth 100000 in
theorem n_walk (l : Launch) (D : va_G) (cI cZ cW cJ : ClassId) (A : Nat → Prop) (X : va_W) (mo zs zv zl zk zt zg zi zw zo ze zd : Nat) (vl vh vg vc vr vt vo vp va vb vd vq : Int32) (vm : Bool) (vz : Int64) (hn : Nat) (gs gv : Nat → Int32) (S : KS) (hist : Nat → KS) (xd : Int32) (hS0 : AbsM S gs) (hWf : Wf S) (hH : HistM hist hn gv) : Met l yX9_walk wsX9_walk ({ frames := 5, cells := 0, slots := 0, locals := 108 }) (va_Pc [.ref mo, .int xd] (wd D (tyL cI cZ cW cJ) A (oX9 mo zs zv (nI hn) zl zk zt vl vh zg zi zw vg zo ze vc vr vt vo (bI vm) vp va vb vd vq zd vz :: aI cI zs 28 gs :: aI cI zv 168 gv :: X))) (va_Qi (fun (r : Int32) (u : Int32 × Nat × (Nat → Int32) × (Nat → Int32)) => (isSideX xd = false ∧ u = (1, hn, gs, gv)) ∨ (isSideX xd = true ∧ u.1 = 0 ∧ u.2.1 = pushN hn ∧ r = (walkK S xd).2 ∧ AbsM (walkK S xd).1 u.2.2.1 ∧ HistM (pushH hist hn S) (pushN hn) u.2.2.2)) (fun (u : Int32 × Nat × (Nat → Int32) × (Nat → Int32)) t => wq D A (oX9 mo zs zv (nI u.2.1) zl zk zt vl u.1 zg zi zw vg zo ze vc vr vt vo (bI vm) vp va vb vd vq zd vz :: aI cI zs 28 u.2.2.1 :: aI cI zv 168 u.2.2.2 :: X) t) A) 0 0 A := by
  refine Met.ofW (cc := cX9_walk) (maxL := 2) (ret := (some .int)) (by decide) rfl ?_
  intro p e s m args below meth c s₁ B hml hv
  obtain ⟨rfl, hsz9, hP, hK, hD, hN⟩ := hv
  have hx := B.exec
  have hb := B.bytes
  have hr := B.returns
  have hts := atoms_spec (ws := wsX9_walk) B.pre
  have hown : s.vm.findClass RX9 = some m.cls := findClass_of_methodNamed B.named
  have hlocks := B.notSynchronized
  have CF : CallFix p m c cX9_walk 2 s _ wsX9_walk RX9 := ⟨hx, hb, hml, hown, hts⟩
  have hA : ∀ q : Nat, s.heap.size ≤ q → A q := hsz9
  have hS : va_S A s.heap s.heap [] := va_S.rf
  have hl := lv_entry ([.ref mo, .int xd]) (n := 2) (Nat.le_of_ble_eq_true rfl)
  rw [lg_entry_eq]
  generalize (lg_sl ([.ref mo, .int xd]) ++ List.replicate (2 - (lg_sl ([.ref mo, .int xd])).length) Slot.unset).toArray = ls at hl ⊢
  have hl : lv_has ls 2 [(0, .ref mo), (1, .int xd)] := hl
  show W p l e ({ frames := 5, cells := 0, slots := 0, locals := 108 } : Room) s m (([.ref mo, .int xd] : List Value).toArray) below meth c s.heap [] 0 0 (MQ below (va_Qi (fun (r : Int32) (u : Int32 × Nat × (Nat → Int32) × (Nat → Int32)) => (isSideX xd = false ∧ u = (1, hn, gs, gv)) ∨ (isSideX xd = true ∧ u.1 = 0 ∧ u.2.1 = pushN hn ∧ r = (walkK S xd).2 ∧ AbsM (walkK S xd).1 u.2.2.1 ∧ HistM (pushH hist hn S) (pushN hn) u.2.2.2)) (fun (u : Int32 × Nat × (Nat → Int32) × (Nat → Int32)) t => wq D A (oX9 mo zs zv (nI u.2.1) zl zk zt vl u.1 zg zi zw vg zo ze vc vr vt vo (bI vm) vp va vb vd vq zd vz :: aI cI zs 28 u.2.2.1 :: aI cI zv 168 u.2.2.2 :: X) t) A) (([.ref mo, .int xd] : List Value).toArray) s 0 0 A) (F0 m 0 ls [])
  refine lv_aload_n hx hb dX9_walk_0 rfl (lv_at hl 0 rfl) ?_
  refine lv_iload_n hx hb dX9_walk_1 rfl (lv_at hl 1 rfl) ?_
  refine cS_i CF hK hN hA hS (cut_of 3 [0, 1, 2] hP hD rfl rfl rfl) (n_isSide l D cI cZ cW cJ A (oX9 mo zs zv (nI hn) zl zk zt vl vh zg zi zw vg zo ze vc vr vt vo (bI vm) vp va vb vd vq zd vz :: aI cI zs 28 gs :: aI cI zv 168 gv :: X) xd) (va_cwS 1 hts gX9_walk_X9_isSide rfl rfl rfl (by decide +kernel) ⟨Nat.le_of_ble_eq_true rfl, Nat.le_of_ble_eq_true rfl⟩) (As := [.int xd]) (rest := [.ref mo]) rfl hl.1 rfl (Nat.le_of_ble_eq_true rfl) dX9_walk_2 ⟨Nat.le_of_ble_eq_true rfl, Nat.le_of_ble_eq_true rfl⟩ (fun r_2 _ H locs hq hP hD hS => ?_)
  have hq : r_2 = bI (isSideX xd) := hq
  subst hq
  have hP : va_P D vwCl (oX9 mo zs zv (nI hn) zl zk zt vl vh zg zi zw vg zo ze vc vr vt vo (bI vm) vp va vb vd vq zd vz :: aI cI zs 28 gs :: aI cI zv 168 gv :: X) H := pm_P hP 3 [0, 1, 2] rfl
  have hD : va_D A (oX9 mo zs zv (nI hn) zl zk zt vl vh zg zi zw vg zo ze vc vr vt vo (bI vm) vp va vb vd vq zd vz :: aI cI zs 28 gs :: aI cI zv 168 gv :: X) := pm_D hD 3 [0, 1, 2] rfl rfl rfl
  refine lv_if_eq (tgt := 12) hx hb dX9_walk_5 (by decide) (fun c_5 => ?_) (fun c_5 => ?_)
  · refine lv_iconst (v := 1) hx hb dX9_walk_12 (by decide) ?_
    refine cV_i CF hK hN hA hS (cut_of 3 [0, 1, 2] hP hD rfl rfl rfl) (n_holds l D cI cZ cW cJ A (aI cI zs 28 gs :: aI cI zv 168 gv :: X) mo zs zv zl zk zt zg zi zw zo ze zd (nI hn) vl vh vg vc vr vt vo vp va vb vd vq vm vz 1) (cwV 1 hts gX9_walk_X9_holds rfl rfl rfl (by decide +kernel) ⟨Nat.le_of_ble_eq_true rfl, Nat.le_of_ble_eq_true rfl⟩) (As := [.int 1]) (rest := []) (ci := 9) (q0 := 0) rfl rfl rfl hl.1 rfl (Nat.le_of_ble_eq_true rfl) dX9_walk_13 ⟨Nat.le_of_ble_eq_true rfl, Nat.le_of_ble_eq_true rfl⟩ (fun r_13 _ H locs hq hP hD hS => ?_)
    have hq : r_13 = bI (decide ((1 : Int32) = 0)) := hq
    subst hq
    have hP : va_P D vwCl (oX9 mo zs zv (nI hn) zl zk zt vl 1 zg zi zw vg zo ze vc vr vt vo (bI vm) vp va vb vd vq zd vz :: aI cI zs 28 gs :: aI cI zv 168 gv :: X) H := pm_P hP 3 [0, 1, 2] rfl
    have hD : va_D A (oX9 mo zs zv (nI hn) zl zk zt vl 1 zg zi zw vg zo ze vc vr vt vo (bI vm) vp va vb vd vq zd vz :: aI cI zs 28 gs :: aI cI zv 168 gv :: X) := pm_D hD 3 [0, 1, 2] rfl rfl rfl
    refine top_i (y := 0) (by decide) ?_
    have c_16 : (0 : Int32) = 0 := by decide
    refine lv_if_ne (tgt := 21) hx hb dX9_walk_16 (by decide) (fun q => absurd c_16 q) (fun _ => ?_)
    refine lv_iconst (v := 0) hx hb dX9_walk_19 (by decide) ?_
    exact W.iret (v := 0) hx hb hr (fun t9 ht9 hW9 => ⟨⟨0, (1, hn, gs, gv), rfl, Or.inl ⟨bf_c c_5, rfl⟩, by rw [ht9]; exact hP, hD⟩, hS.F ht9⟩) hS.2.2 dX9_walk_20
  · refine lv_iconst (v := 0) hx hb dX9_walk_8 (by decide) ?_
    refine lv_goto (tgt := 13) hx hb dX9_walk_9 (by decide) ?_
    refine cV_i CF hK hN hA hS (cut_of 3 [0, 1, 2] hP hD rfl rfl rfl) (n_holds l D cI cZ cW cJ A (aI cI zs 28 gs :: aI cI zv 168 gv :: X) mo zs zv zl zk zt zg zi zw zo ze zd (nI hn) vl vh vg vc vr vt vo vp va vb vd vq vm vz 0) (cwV 1 hts gX9_walk_X9_holds rfl rfl rfl (by decide +kernel) ⟨Nat.le_of_ble_eq_true rfl, Nat.le_of_ble_eq_true rfl⟩) (As := [.int 0]) (rest := []) (ci := 9) (q0 := 0) rfl rfl rfl hl.1 rfl (Nat.le_of_ble_eq_true rfl) dX9_walk_13 ⟨Nat.le_of_ble_eq_true rfl, Nat.le_of_ble_eq_true rfl⟩ (fun r_13 _ H locs hq hP hD hS => ?_)
    have hq : r_13 = bI (decide ((0 : Int32) = 0)) := hq
    subst hq
    have hP : va_P D vwCl (oX9 mo zs zv (nI hn) zl zk zt vl 0 zg zi zw vg zo ze vc vr vt vo (bI vm) vp va vb vd vq zd vz :: aI cI zs 28 gs :: aI cI zv 168 gv :: X) H := pm_P hP 3 [0, 1, 2] rfl
    have hD : va_D A (oX9 mo zs zv (nI hn) zl zk zt vl 0 zg zi zw vg zo ze vc vr vt vo (bI vm) vp va vb vd vq zd vz :: aI cI zs 28 gs :: aI cI zv 168 gv :: X) := pm_D hD 3 [0, 1, 2] rfl rfl rfl
    refine top_i (y := 1) (by decide) ?_
    have c_16 : ¬ (1 : Int32) = 0 := by decide
    refine lv_if_ne (tgt := 21) hx hb dX9_walk_16 (by decide) (fun _ => ?_) (fun q => absurd q c_16)
    refine lv_aload_n hx hb dX9_walk_21 rfl (lv_at hl 0 rfl) ?_
    refine cV_v CF hK hN hA hS (cut_of 3 [0, 1, 2] hP hD rfl rfl rfl) (n_save l D cI cZ cW cJ A (X) mo zs zv zl zk zt zg zi zw zo ze zd vl 0 vg vc vr vt vo vp va vb vd vq vm vz hn gs gv S hist hS0 hH) (cwV 0 hts gX9_walk_X9_save rfl rfl rfl (by decide +kernel) ⟨Nat.le_of_ble_eq_true rfl, Nat.le_of_ble_eq_true rfl⟩) (As := []) (rest := []) (ci := 9) (q0 := 0) rfl rfl rfl hl.1 rfl (Nat.le_of_ble_eq_true rfl) dX9_walk_22 ⟨Nat.le_of_ble_eq_true rfl, Nat.le_of_ble_eq_true rfl⟩ (fun u_22 H locs hq hP hD hS => ?_)
    have hq_22 : HistM (pushH hist hn S) (pushN hn) u_22 := hq
    have hP : va_P D vwCl (oX9 mo zs zv (nI (pushN hn)) zl zk zt vl 0 zg zi zw vg zo ze vc vr vt vo (bI vm) vp va vb vd vq zd vz :: aI cI zs 28 gs :: aI cI zv 168 u_22 :: X) H := pm_P hP 3 [0, 1, 2] rfl
    have hD : va_D A (oX9 mo zs zv (nI (pushN hn)) zl zk zt vl 0 zg zi zw vg zo ze vc vr vt vo (bI vm) vp va vb vd vq zd vz :: aI cI zs 28 gs :: aI cI zv 168 u_22 :: X) := pm_D hD 3 [0, 1, 2] rfl rfl rfl
    refine lv_aload_n hx hb dX9_walk_25 rfl (lv_at hl 0 rfl) ?_
    refine lv_iload_n hx hb dX9_walk_26 rfl (lv_at hl 1 rfl) ?_
    refine cV_i CF hK hN hA hS (cut_of 3 [0, 1, 2] hP hD rfl rfl rfl) (n_doWalk l D cI cZ cW cJ A (aI cI zv 168 u_22 :: X) mo zs zv zl zk zt zg zi zw zo ze zd (nI (pushN hn)) vl 0 vg vc vr vt vo vp va vb vd vq vm vz gs S xd hS0) (cwV 1 hts gX9_walk_X9_doWalk rfl rfl rfl (by decide +kernel) ⟨Nat.le_of_ble_eq_true rfl, Nat.le_of_ble_eq_true rfl⟩) (As := [.int xd]) (rest := []) (ci := 9) (q0 := 0) rfl rfl rfl hl.1 rfl (Nat.le_of_ble_eq_true rfl) dX9_walk_27 ⟨Nat.le_of_ble_eq_true rfl, Nat.le_of_ble_eq_true rfl⟩ (fun r_27 u_27 H locs hq hP hD hS => ?_)
    have hq_27 : r_27 = (walkK S xd).2 ∧ AbsM (walkK S xd).1 u_27 := hq
    have hP : va_P D vwCl (oX9 mo zs zv (nI (pushN hn)) zl zk zt vl 0 zg zi zw vg zo ze vc vr vt vo (bI vm) vp va vb vd vq zd vz :: aI cI zs 28 u_27 :: aI cI zv 168 u_22 :: X) H := pm_P hP 3 [0, 1, 2] rfl
    have hD : va_D A (oX9 mo zs zv (nI (pushN hn)) zl zk zt vl 0 zg zi zw vg zo ze vc vr vt vo (bI vm) vp va vb vd vq zd vz :: aI cI zs 28 u_27 :: aI cI zv 168 u_22 :: X) := pm_D hD 3 [0, 1, 2] rfl rfl rfl
    exact W.iret (v := r_27) hx hb hr (fun t9 ht9 hW9 => ⟨⟨r_27, (0, pushN hn, u_27, u_22), rfl, Or.inr ⟨bt_c c_5, rfl, rfl, hq_27.1, hq_27.2, hq_22⟩, by rw [ht9]; exact hP, hD⟩, hS.F ht9⟩) hS.2.2 dX9_walk_30
set_option maxHeartbeats 4000000 in
set_option maxRecDepth 100000 in
theorem n_leap (l : Launch) (D : va_G) (cI cZ cW cJ : ClassId) (A : Nat → Prop) (X : va_W) (mo zs zv zl zk zt zg zi zw zo ze zd : Nat) (vl vh vg vc vr vt vo vp va vb vd vq : Int32) (vm : Bool) (vz : Int64) (hn : Nat) (gs gv : Nat → Int32) (S : KS) (hist : Nat → KS) (xd xu : Int32) (hS0 : AbsM S gs) (hWf : Wf S) (hH : HistM hist hn gv) : Met l yX9_leap wsX9_leap ({ frames := 7, cells := 0, slots := 0, locals := 162 }) (va_Pc [.ref mo, .int xd, .int xu] (wd D (tyL cI cZ cW cJ) A (oX9 mo zs zv (nI hn) zl zk zt vl vh zg zi zw vg zo ze vc vr vt vo (bI vm) vp va vb vd vq zd vz :: aI cI zs 28 gs :: aI cI zv 168 gv :: X))) (va_Qi (fun (r : Int32) (u : Int32 × Nat × (Nat → Int32) × (Nat → Int32) × (Int32 × Int32 × Int32 × Int32 × Bool)) => ((isSideX xd = false ∨ isRunX xu = false) ∧ u = (1, hn, gs, gv, (vc, vr, vt, vo, vm))) ∨ (isSideX xd = true ∧ isRunX xu = true ∧ u.1 = 0 ∧ u.2.1 = pushN hn ∧ r = (leapK S xd xu.toNatClampNeg).2 ∧ AbsM (leapK S xd xu.toNatClampNeg).1 u.2.2.1 ∧ HistM (pushH hist hn S) (pushN hn) u.2.2.2.1)) (fun (u : Int32 × Nat × (Nat → Int32) × (Nat → Int32) × (Int32 × Int32 × Int32 × Int32 × Bool)) t => wq D A (oX9 mo zs zv (nI u.2.1) zl zk zt vl u.1 zg zi zw vg zo ze u.2.2.2.2.1 u.2.2.2.2.2.1 u.2.2.2.2.2.2.1 u.2.2.2.2.2.2.2.1 (bI u.2.2.2.2.2.2.2.2) vp va vb vd vq zd vz :: aI cI zs 28 u.2.2.1 :: aI cI zv 168 u.2.2.2.1 :: X) t) A) 0 0 A := by
  refine Met.ofW (cc := cX9_leap) (maxL := 3) (ret := (some .int)) (by decide) rfl ?_
  intro p e s m args below meth c s₁ B hml hv
  obtain ⟨rfl, hsz9, hP, hK, hD, hN⟩ := hv
  have hx := B.exec
  have hb := B.bytes
  have hr := B.returns
  have hts := atoms_spec (ws := wsX9_leap) B.pre
  have hown : s.vm.findClass RX9 = some m.cls := findClass_of_methodNamed B.named
  have hlocks := B.notSynchronized
  have CF : CallFix p m c cX9_leap 3 s _ wsX9_leap RX9 := ⟨hx, hb, hml, hown, hts⟩
  have hA : ∀ q : Nat, s.heap.size ≤ q → A q := hsz9
  have hS : va_S A s.heap s.heap [] := va_S.rf
  have hl := lv_entry ([.ref mo, .int xd, .int xu]) (n := 3) (Nat.le_of_ble_eq_true rfl)
  rw [lg_entry_eq]
  generalize (lg_sl ([.ref mo, .int xd, .int xu]) ++ List.replicate (3 - (lg_sl ([.ref mo, .int xd, .int xu])).length) Slot.unset).toArray = ls at hl ⊢
  have hl : lv_has ls 3 [(0, .ref mo), (1, .int xd), (2, .int xu)] := hl
  show W p l e ({ frames := 7, cells := 0, slots := 0, locals := 162 } : Room) s m (([.ref mo, .int xd, .int xu] : List Value).toArray) below meth c s.heap [] 0 0 (MQ below (va_Qi (fun (r : Int32) (u : Int32 × Nat × (Nat → Int32) × (Nat → Int32) × (Int32 × Int32 × Int32 × Int32 × Bool)) => ((isSideX xd = false ∨ isRunX xu = false) ∧ u = (1, hn, gs, gv, (vc, vr, vt, vo, vm))) ∨ (isSideX xd = true ∧ isRunX xu = true ∧ u.1 = 0 ∧ u.2.1 = pushN hn ∧ r = (leapK S xd xu.toNatClampNeg).2 ∧ AbsM (leapK S xd xu.toNatClampNeg).1 u.2.2.1 ∧ HistM (pushH hist hn S) (pushN hn) u.2.2.2.1)) (fun (u : Int32 × Nat × (Nat → Int32) × (Nat → Int32) × (Int32 × Int32 × Int32 × Int32 × Bool)) t => wq D A (oX9 mo zs zv (nI u.2.1) zl zk zt vl u.1 zg zi zw vg zo ze u.2.2.2.2.1 u.2.2.2.2.2.1 u.2.2.2.2.2.2.1 u.2.2.2.2.2.2.2.1 (bI u.2.2.2.2.2.2.2.2) vp va vb vd vq zd vz :: aI cI zs 28 u.2.2.1 :: aI cI zv 168 u.2.2.2.1 :: X) t) A) (([.ref mo, .int xd, .int xu] : List Value).toArray) s 0 0 A) (F0 m 0 ls [])
  refine lv_aload_n hx hb dX9_leap_0 rfl (lv_at hl 0 rfl) ?_
  refine lv_iload_n hx hb dX9_leap_1 rfl (lv_at hl 1 rfl) ?_
  refine cS_i CF hK hN hA hS (cut_of 3 [0, 1, 2] hP hD rfl rfl rfl) (n_isSide l D cI cZ cW cJ A (oX9 mo zs zv (nI hn) zl zk zt vl vh zg zi zw vg zo ze vc vr vt vo (bI vm) vp va vb vd vq zd vz :: aI cI zs 28 gs :: aI cI zv 168 gv :: X) xd) (va_cwS 1 hts gX9_leap_X9_isSide rfl rfl rfl (by decide +kernel) ⟨Nat.le_of_ble_eq_true rfl, Nat.le_of_ble_eq_true rfl⟩) (As := [.int xd]) (rest := [.ref mo]) rfl hl.1 rfl (Nat.le_of_ble_eq_true rfl) dX9_leap_2 ⟨Nat.le_of_ble_eq_true rfl, Nat.le_of_ble_eq_true rfl⟩ (fun r_2 _ H locs hq hP hD hS => ?_)
  have hq : r_2 = bI (isSideX xd) := hq
  subst hq
  have hP : va_P D vwCl (oX9 mo zs zv (nI hn) zl zk zt vl vh zg zi zw vg zo ze vc vr vt vo (bI vm) vp va vb vd vq zd vz :: aI cI zs 28 gs :: aI cI zv 168 gv :: X) H := pm_P hP 3 [0, 1, 2] rfl
  have hD : va_D A (oX9 mo zs zv (nI hn) zl zk zt vl vh zg zi zw vg zo ze vc vr vt vo (bI vm) vp va vb vd vq zd vz :: aI cI zs 28 gs :: aI cI zv 168 gv :: X) := pm_D hD 3 [0, 1, 2] rfl rfl rfl
  refine lv_if_eq (tgt := 21) hx hb dX9_leap_5 (by decide) (fun c_5 => ?_) (fun c_5 => ?_)
  · refine lv_iconst (v := 1) hx hb dX9_leap_21 (by decide) ?_
    refine cV_i CF hK hN hA hS (cut_of 3 [0, 1, 2] hP hD rfl rfl rfl) (n_holds l D cI cZ cW cJ A (aI cI zs 28 gs :: aI cI zv 168 gv :: X) mo zs zv zl zk zt zg zi zw zo ze zd (nI hn) vl vh vg vc vr vt vo vp va vb vd vq vm vz 1) (cwV 1 hts gX9_leap_X9_holds rfl rfl rfl (by decide +kernel) ⟨Nat.le_of_ble_eq_true rfl, Nat.le_of_ble_eq_true rfl⟩) (As := [.int 1]) (rest := []) (ci := 9) (q0 := 0) rfl rfl rfl hl.1 rfl (Nat.le_of_ble_eq_true rfl) dX9_leap_22 ⟨Nat.le_of_ble_eq_true rfl, Nat.le_of_ble_eq_true rfl⟩ (fun r_22 _ H locs hq hP hD hS => ?_)
    have hq : r_22 = bI (decide ((1 : Int32) = 0)) := hq
    subst hq
    have hP : va_P D vwCl (oX9 mo zs zv (nI hn) zl zk zt vl 1 zg zi zw vg zo ze vc vr vt vo (bI vm) vp va vb vd vq zd vz :: aI cI zs 28 gs :: aI cI zv 168 gv :: X) H := pm_P hP 3 [0, 1, 2] rfl
    have hD : va_D A (oX9 mo zs zv (nI hn) zl zk zt vl 1 zg zi zw vg zo ze vc vr vt vo (bI vm) vp va vb vd vq zd vz :: aI cI zs 28 gs :: aI cI zv 168 gv :: X) := pm_D hD 3 [0, 1, 2] rfl rfl rfl
    refine top_i (y := 0) (by decide) ?_
    have c_25 : (0 : Int32) = 0 := by decide
    refine lv_if_ne (tgt := 30) hx hb dX9_leap_25 (by decide) (fun q => absurd c_25 q) (fun _ => ?_)
    refine lv_iconst (v := 0) hx hb dX9_leap_28 (by decide) ?_
    exact W.iret (v := 0) hx hb hr (fun t9 ht9 hW9 => ⟨⟨0, (1, hn, gs, gv, (vc, vr, vt, vo, vm)), rfl, Or.inl ⟨Or.inl (bf_c c_5), rfl⟩, by rw [ht9]; exact hP, hD⟩, hS.F ht9⟩) hS.2.2 dX9_leap_29
  · refine lv_iload_n hx hb dX9_leap_8 rfl (lv_at hl 2 rfl) ?_
    refine lv_iconst (v := 0) hx hb dX9_leap_9 (by decide) ?_
    refine lv_iconst (v := 3) hx hb dX9_leap_10 (by decide) ?_
    refine cS_i CF hK hN hA hS (cut_of 3 [0, 1, 2] hP hD rfl rfl rfl) (n_in l D cI cZ cW cJ A (oX9 mo zs zv (nI hn) zl zk zt vl vh zg zi zw vg zo ze vc vr vt vo (bI vm) vp va vb vd vq zd vz :: aI cI zs 28 gs :: aI cI zv 168 gv :: X) xu 0 3) (va_cwS 3 hts gX9_leap_X9_in rfl rfl rfl (by decide +kernel) ⟨Nat.le_of_ble_eq_true rfl, Nat.le_of_ble_eq_true rfl⟩) (As := [.int xu, .int 0, .int 3]) (rest := [.ref mo]) rfl hl.1 rfl (Nat.le_of_ble_eq_true rfl) dX9_leap_11 ⟨Nat.le_of_ble_eq_true rfl, Nat.le_of_ble_eq_true rfl⟩ (fun r_11 _ H locs hq hP hD hS => ?_)
    have hq : r_11 = bI (inX xu 0 3) := hq
    subst hq
    have hP : va_P D vwCl (oX9 mo zs zv (nI hn) zl zk zt vl vh zg zi zw vg zo ze vc vr vt vo (bI vm) vp va vb vd vq zd vz :: aI cI zs 28 gs :: aI cI zv 168 gv :: X) H := pm_P hP 3 [0, 1, 2] rfl
    have hD : va_D A (oX9 mo zs zv (nI hn) zl zk zt vl vh zg zi zw vg zo ze vc vr vt vo (bI vm) vp va vb vd vq zd vz :: aI cI zs 28 gs :: aI cI zv 168 gv :: X) := pm_D hD 3 [0, 1, 2] rfl rfl rfl
    refine lv_if_eq (tgt := 21) hx hb dX9_leap_14 (by decide) (fun c_14 => ?_) (fun c_14 => ?_)
    · refine lv_iconst (v := 1) hx hb dX9_leap_21 (by decide) ?_
      refine cV_i CF hK hN hA hS (cut_of 3 [0, 1, 2] hP hD rfl rfl rfl) (n_holds l D cI cZ cW cJ A (aI cI zs 28 gs :: aI cI zv 168 gv :: X) mo zs zv zl zk zt zg zi zw zo ze zd (nI hn) vl vh vg vc vr vt vo vp va vb vd vq vm vz 1) (cwV 1 hts gX9_leap_X9_holds rfl rfl rfl (by decide +kernel) ⟨Nat.le_of_ble_eq_true rfl, Nat.le_of_ble_eq_true rfl⟩) (As := [.int 1]) (rest := []) (ci := 9) (q0 := 0) rfl rfl rfl hl.1 rfl (Nat.le_of_ble_eq_true rfl) dX9_leap_22 ⟨Nat.le_of_ble_eq_true rfl, Nat.le_of_ble_eq_true rfl⟩ (fun r_22 _ H locs hq hP hD hS => ?_)
      have hq : r_22 = bI (decide ((1 : Int32) = 0)) := hq
      subst hq
      have hP : va_P D vwCl (oX9 mo zs zv (nI hn) zl zk zt vl 1 zg zi zw vg zo ze vc vr vt vo (bI vm) vp va vb vd vq zd vz :: aI cI zs 28 gs :: aI cI zv 168 gv :: X) H := pm_P hP 3 [0, 1, 2] rfl
      have hD : va_D A (oX9 mo zs zv (nI hn) zl zk zt vl 1 zg zi zw vg zo ze vc vr vt vo (bI vm) vp va vb vd vq zd vz :: aI cI zs 28 gs :: aI cI zv 168 gv :: X) := pm_D hD 3 [0, 1, 2] rfl rfl rfl
      refine top_i (y := 0) (by decide) ?_
      have c_25 : (0 : Int32) = 0 := by decide
      refine lv_if_ne (tgt := 30) hx hb dX9_leap_25 (by decide) (fun q => absurd c_25 q) (fun _ => ?_)
      refine lv_iconst (v := 0) hx hb dX9_leap_28 (by decide) ?_
      exact W.iret (v := 0) hx hb hr (fun t9 ht9 hW9 => ⟨⟨0, (1, hn, gs, gv, (vc, vr, vt, vo, vm)), rfl, Or.inl ⟨Or.inr (bf_c c_14), rfl⟩, by rw [ht9]; exact hP, hD⟩, hS.F ht9⟩) hS.2.2 dX9_leap_29
    · refine lv_iconst (v := 0) hx hb dX9_leap_17 (by decide) ?_
      refine lv_goto (tgt := 22) hx hb dX9_leap_18 (by decide) ?_
      refine cV_i CF hK hN hA hS (cut_of 3 [0, 1, 2] hP hD rfl rfl rfl) (n_holds l D cI cZ cW cJ A (aI cI zs 28 gs :: aI cI zv 168 gv :: X) mo zs zv zl zk zt zg zi zw zo ze zd (nI hn) vl vh vg vc vr vt vo vp va vb vd vq vm vz 0) (cwV 1 hts gX9_leap_X9_holds rfl rfl rfl (by decide +kernel) ⟨Nat.le_of_ble_eq_true rfl, Nat.le_of_ble_eq_true rfl⟩) (As := [.int 0]) (rest := []) (ci := 9) (q0 := 0) rfl rfl rfl hl.1 rfl (Nat.le_of_ble_eq_true rfl) dX9_leap_22 ⟨Nat.le_of_ble_eq_true rfl, Nat.le_of_ble_eq_true rfl⟩ (fun r_22 _ H locs hq hP hD hS => ?_)
      have hq : r_22 = bI (decide ((0 : Int32) = 0)) := hq
      subst hq
      have hP : va_P D vwCl (oX9 mo zs zv (nI hn) zl zk zt vl 0 zg zi zw vg zo ze vc vr vt vo (bI vm) vp va vb vd vq zd vz :: aI cI zs 28 gs :: aI cI zv 168 gv :: X) H := pm_P hP 3 [0, 1, 2] rfl
      have hD : va_D A (oX9 mo zs zv (nI hn) zl zk zt vl 0 zg zi zw vg zo ze vc vr vt vo (bI vm) vp va vb vd vq zd vz :: aI cI zs 28 gs :: aI cI zv 168 gv :: X) := pm_D hD 3 [0, 1, 2] rfl rfl rfl
      refine top_i (y := 1) (by decide) ?_
      have c_25 : ¬ (1 : Int32) = 0 := by decide
      refine lv_if_ne (tgt := 30) hx hb dX9_leap_25 (by decide) (fun _ => ?_) (fun q => absurd q c_25)
      obtain ⟨ak, hak, e1⟩ := isRun_nI (bt_c c_14)
      have hK9 : leapK S xd xu.toNatClampNeg = leapK S xd ak := by rw [e1, nI_clamp (by omega)]
      refine lv_aload_n hx hb dX9_leap_30 rfl (lv_at hl 0 rfl) ?_
      refine cV_v CF hK hN hA hS (cut_of 3 [0, 1, 2] hP hD rfl rfl rfl) (n_save l D cI cZ cW cJ A (X) mo zs zv zl zk zt zg zi zw zo ze zd vl 0 vg vc vr vt vo vp va vb vd vq vm vz hn gs gv S hist hS0 hH) (cwV 0 hts gX9_leap_X9_save rfl rfl rfl (by decide +kernel) ⟨Nat.le_of_ble_eq_true rfl, Nat.le_of_ble_eq_true rfl⟩) (As := []) (rest := []) (ci := 9) (q0 := 0) rfl rfl rfl hl.1 rfl (Nat.le_of_ble_eq_true rfl) dX9_leap_31 ⟨Nat.le_of_ble_eq_true rfl, Nat.le_of_ble_eq_true rfl⟩ (fun u_31 H locs hq hP hD hS => ?_)
      have hq_31 : HistM (pushH hist hn S) (pushN hn) u_31 := hq
      have hP : va_P D vwCl (oX9 mo zs zv (nI (pushN hn)) zl zk zt vl 0 zg zi zw vg zo ze vc vr vt vo (bI vm) vp va vb vd vq zd vz :: aI cI zs 28 gs :: aI cI zv 168 u_31 :: X) H := pm_P hP 3 [0, 1, 2] rfl
      have hD : va_D A (oX9 mo zs zv (nI (pushN hn)) zl zk zt vl 0 zg zi zw vg zo ze vc vr vt vo (bI vm) vp va vb vd vq zd vz :: aI cI zs 28 gs :: aI cI zv 168 u_31 :: X) := pm_D hD 3 [0, 1, 2] rfl rfl rfl
      refine lv_aload_n hx hb dX9_leap_34 rfl (lv_at hl 0 rfl) ?_
      refine lv_iload_n hx hb dX9_leap_35 rfl (lv_at hl 1 rfl) ?_
      refine lv_iload_n hx hb dX9_leap_36 rfl (lv_at hl 2 rfl) ?_
      refine top_i (y := (nI ak)) e1 ?_
      refine cV_i CF hK hN hA hS (cut_of 3 [0, 1, 2] hP hD rfl rfl rfl) (n_doLeap l D cI cZ cW cJ A (aI cI zv 168 u_31 :: X) mo zs zv zl zk zt zg zi zw zo ze zd (nI (pushN hn)) vl 0 vg vc vr vt vo vp va vb vd vq vm vz gs S ak xd hS0 hWf hak) (cwV 2 hts gX9_leap_X9_doLeap rfl rfl rfl (by decide +kernel) ⟨Nat.le_of_ble_eq_true rfl, Nat.le_of_ble_eq_true rfl⟩) (As := [.int xd, .int (nI ak)]) (rest := []) (ci := 9) (q0 := 0) rfl rfl rfl hl.1 rfl (Nat.le_of_ble_eq_true rfl) dX9_leap_37 ⟨Nat.le_of_ble_eq_true rfl, Nat.le_of_ble_eq_true rfl⟩ (fun r_37 u_37 H locs hq hP hD hS => ?_)
      have hq_37 : r_37 = (leapK S xd ak).2 ∧ AbsM (leapK S xd ak).1 u_37.2 := hq
      have hP : va_P D vwCl (oX9 mo zs zv (nI (pushN hn)) zl zk zt vl 0 zg zi zw vg zo ze u_37.1.1 u_37.1.2.1 u_37.1.2.2.1 u_37.1.2.2.2.1 (bI u_37.1.2.2.2.2) vp va vb vd vq zd vz :: aI cI zs 28 u_37.2 :: aI cI zv 168 u_31 :: X) H := pm_P hP 3 [0, 1, 2] rfl
      have hD : va_D A (oX9 mo zs zv (nI (pushN hn)) zl zk zt vl 0 zg zi zw vg zo ze u_37.1.1 u_37.1.2.1 u_37.1.2.2.1 u_37.1.2.2.2.1 (bI u_37.1.2.2.2.2) vp va vb vd vq zd vz :: aI cI zs 28 u_37.2 :: aI cI zv 168 u_31 :: X) := pm_D hD 3 [0, 1, 2] rfl rfl rfl
      exact W.iret (v := r_37) hx hb hr (fun t9 ht9 hW9 => ⟨⟨r_37, (0, pushN hn, u_37.2, u_31, u_37.1), rfl, Or.inr ⟨bt_c c_5, bt_c c_14, rfl, rfl, by rw [hK9]; exact hq_37.1, by rw [hK9]; exact hq_37.2, hq_31⟩, by rw [ht9]; exact hP, hD⟩, hS.F ht9⟩) hS.2.2 dX9_leap_40
theorem put_no {S : KS} {c r : Nat} (h : stB (Bk S.1) (nI c) (nI r) = false) : putK S c r = (refK S, -1) := by unfold putK; rw [if_neg (by rw [h]; decide)]
theorem put_do {S : KS} {c r : Nat} (h : stB (Bk S.1) (nI c) (nI r) = true) : putK S c r = ((S.1, S.2.1, (c, r), S.2.2.2), lgF (SB (Bk S.1)) (20 * r + c)) := by unfold putK; rw [if_pos h]
set_option maxHeartbeats 4000000 in
set_option maxRecDepth 100000 in
theorem n_put (l : Launch) (D : va_G) (cI cZ cW cJ : ClassId) (A : Nat → Prop) (X : va_W) (mo zs zv zl zk zt zg zi zw zo ze zd : Nat) (vl vh vg vc vr vt vo vp va vb vd vq : Int32) (vm : Bool) (vz : Int64) (hn : Nat) (gs gv gg gi gw : Nat → Int32) (S : KS) (hist : Nat → KS) (xc xr : Int32) (hS0 : AbsM S gs) (hH : HistM hist hn gv) : Met l yX9_put wsX9_put ({ frames := 5, cells := 0, slots := 0, locals := 110 }) (va_Pc [.ref mo, .int xc, .int xr] (wd D (tyL cI cZ cW cJ) A (oX9 mo zs zv (nI hn) zl zk zt vl vh zg zi zw vg zo ze vc vr vt vo (bI vm) vp va vb vd vq zd vz :: aI cI zs 28 gs :: aI cI zv 168 gv :: aI cI zg 200 gg :: aI cI zi 100 gi :: aI cI zw 100 gw :: X))) (va_Qi (fun (r : Int32) (u : Int32 × Nat × (Nat → Int32) × (Nat → Int32) × Int32 × (Nat → Int32) × (Nat → Int32) × (Nat → Int32)) => (isCellX xc xr = false ∧ u = (1, hn, gs, gv, vg, gg, gi, gw)) ∨ (isCellX xc xr = true ∧ u.1 = 0 ∧ u.2.1 = pushN hn ∧ r = (putK S xc.toNatClampNeg xr.toNatClampNeg).2 ∧ AbsM (putK S xc.toNatClampNeg xr.toNatClampNeg).1 u.2.2.1 ∧ HistM (pushH hist hn S) (pushN hn) u.2.2.2.1)) (fun (u : Int32 × Nat × (Nat → Int32) × (Nat → Int32) × Int32 × (Nat → Int32) × (Nat → Int32) × (Nat → Int32)) t => wq D A (oX9 mo zs zv (nI u.2.1) zl zk zt vl u.1 zg zi zw u.2.2.2.2.1 zo ze vc vr vt vo (bI vm) vp va vb vd vq zd vz :: aI cI zs 28 u.2.2.1 :: aI cI zv 168 u.2.2.2.1 :: aI cI zg 200 u.2.2.2.2.2.1 :: aI cI zi 100 u.2.2.2.2.2.2.1 :: aI cI zw 100 u.2.2.2.2.2.2.2 :: X) t) A) 0 0 A := by
  refine Met.ofW (cc := cX9_put) (maxL := 3) (ret := (some .int)) (by decide) rfl ?_
  intro p e s m args below meth c s₁ B hml hv
  obtain ⟨rfl, hsz9, hP, hK, hD, hN⟩ := hv
  have hx := B.exec
  have hb := B.bytes
  have hr := B.returns
  have hts := atoms_spec (ws := wsX9_put) B.pre
  have hown : s.vm.findClass RX9 = some m.cls := findClass_of_methodNamed B.named
  have hlocks := B.notSynchronized
  have CF : CallFix p m c cX9_put 3 s _ wsX9_put RX9 := ⟨hx, hb, hml, hown, hts⟩
  have hA : ∀ q : Nat, s.heap.size ≤ q → A q := hsz9
  have hS : va_S A s.heap s.heap [] := va_S.rf
  have hiX9 : ∀ w ∈ u_ws RX9 TX9 26, w ∈ wsX9_put := fun _ h => List.mem_cons_of_mem _ (List.mem_append_right _ (h))
  have hl := lv_entry ([.ref mo, .int xc, .int xr]) (n := 3) (Nat.le_of_ble_eq_true rfl)
  rw [lg_entry_eq]
  generalize (lg_sl ([.ref mo, .int xc, .int xr]) ++ List.replicate (3 - (lg_sl ([.ref mo, .int xc, .int xr])).length) Slot.unset).toArray = ls at hl ⊢
  have hl : lv_has ls 3 [(0, .ref mo), (1, .int xc), (2, .int xr)] := hl
  show W p l e ({ frames := 5, cells := 0, slots := 0, locals := 110 } : Room) s m (([.ref mo, .int xc, .int xr] : List Value).toArray) below meth c s.heap [] 0 0 (MQ below (va_Qi (fun (r : Int32) (u : Int32 × Nat × (Nat → Int32) × (Nat → Int32) × Int32 × (Nat → Int32) × (Nat → Int32) × (Nat → Int32)) => (isCellX xc xr = false ∧ u = (1, hn, gs, gv, vg, gg, gi, gw)) ∨ (isCellX xc xr = true ∧ u.1 = 0 ∧ u.2.1 = pushN hn ∧ r = (putK S xc.toNatClampNeg xr.toNatClampNeg).2 ∧ AbsM (putK S xc.toNatClampNeg xr.toNatClampNeg).1 u.2.2.1 ∧ HistM (pushH hist hn S) (pushN hn) u.2.2.2.1)) (fun (u : Int32 × Nat × (Nat → Int32) × (Nat → Int32) × Int32 × (Nat → Int32) × (Nat → Int32) × (Nat → Int32)) t => wq D A (oX9 mo zs zv (nI u.2.1) zl zk zt vl u.1 zg zi zw u.2.2.2.2.1 zo ze vc vr vt vo (bI vm) vp va vb vd vq zd vz :: aI cI zs 28 u.2.2.1 :: aI cI zv 168 u.2.2.2.1 :: aI cI zg 200 u.2.2.2.2.2.1 :: aI cI zi 100 u.2.2.2.2.2.2.1 :: aI cI zw 100 u.2.2.2.2.2.2.2 :: X) t) A) (([.ref mo, .int xc, .int xr] : List Value).toArray) s 0 0 A) (F0 m 0 ls [])
  refine lv_aload_n hx hb dX9_put_0 rfl (lv_at hl 0 rfl) ?_
  refine lv_iload_n hx hb dX9_put_1 rfl (lv_at hl 1 rfl) ?_
  refine lv_iload_n hx hb dX9_put_2 rfl (lv_at hl 2 rfl) ?_
  refine cS_i CF hK hN hA hS (cut_of 6 [0, 1, 2, 3, 4, 5] hP hD rfl rfl rfl) (n_isCell l D cI cZ cW cJ A (oX9 mo zs zv (nI hn) zl zk zt vl vh zg zi zw vg zo ze vc vr vt vo (bI vm) vp va vb vd vq zd vz :: aI cI zs 28 gs :: aI cI zv 168 gv :: aI cI zg 200 gg :: aI cI zi 100 gi :: aI cI zw 100 gw :: X) xc xr) (va_cwS 2 hts gX9_put_X9_isCell rfl rfl rfl (by decide +kernel) ⟨Nat.le_of_ble_eq_true rfl, Nat.le_of_ble_eq_true rfl⟩) (As := [.int xc, .int xr]) (rest := [.ref mo]) rfl hl.1 rfl (Nat.le_of_ble_eq_true rfl) dX9_put_3 ⟨Nat.le_of_ble_eq_true rfl, Nat.le_of_ble_eq_true rfl⟩ (fun r_3 _ H locs hq hP hD hS => ?_)
  have hq : r_3 = bI (isCellX xc xr) := hq
  subst hq
  have hP : va_P D vwCl (oX9 mo zs zv (nI hn) zl zk zt vl vh zg zi zw vg zo ze vc vr vt vo (bI vm) vp va vb vd vq zd vz :: aI cI zs 28 gs :: aI cI zv 168 gv :: aI cI zg 200 gg :: aI cI zi 100 gi :: aI cI zw 100 gw :: X) H := pm_P hP 6 [0, 1, 2, 3, 4, 5] rfl
  have hD : va_D A (oX9 mo zs zv (nI hn) zl zk zt vl vh zg zi zw vg zo ze vc vr vt vo (bI vm) vp va vb vd vq zd vz :: aI cI zs 28 gs :: aI cI zv 168 gv :: aI cI zg 200 gg :: aI cI zi 100 gi :: aI cI zw 100 gw :: X) := pm_D hD 6 [0, 1, 2, 3, 4, 5] rfl rfl rfl
  refine lv_if_eq (tgt := 13) hx hb dX9_put_6 (by decide) (fun c_6 => ?_) (fun c_6 => ?_)
  · refine lv_iconst (v := 1) hx hb dX9_put_13 (by decide) ?_
    refine cV_i CF hK hN hA hS (cut_of 6 [0, 1, 2, 3, 4, 5] hP hD rfl rfl rfl) (n_holds l D cI cZ cW cJ A (aI cI zs 28 gs :: aI cI zv 168 gv :: aI cI zg 200 gg :: aI cI zi 100 gi :: aI cI zw 100 gw :: X) mo zs zv zl zk zt zg zi zw zo ze zd (nI hn) vl vh vg vc vr vt vo vp va vb vd vq vm vz 1) (cwV 1 hts gX9_put_X9_holds rfl rfl rfl (by decide +kernel) ⟨Nat.le_of_ble_eq_true rfl, Nat.le_of_ble_eq_true rfl⟩) (As := [.int 1]) (rest := []) (ci := 9) (q0 := 0) rfl rfl rfl hl.1 rfl (Nat.le_of_ble_eq_true rfl) dX9_put_14 ⟨Nat.le_of_ble_eq_true rfl, Nat.le_of_ble_eq_true rfl⟩ (fun r_14 _ H locs hq hP hD hS => ?_)
    have hq : r_14 = bI (decide ((1 : Int32) = 0)) := hq
    subst hq
    have hP : va_P D vwCl (oX9 mo zs zv (nI hn) zl zk zt vl 1 zg zi zw vg zo ze vc vr vt vo (bI vm) vp va vb vd vq zd vz :: aI cI zs 28 gs :: aI cI zv 168 gv :: aI cI zg 200 gg :: aI cI zi 100 gi :: aI cI zw 100 gw :: X) H := pm_P hP 6 [0, 1, 2, 3, 4, 5] rfl
    have hD : va_D A (oX9 mo zs zv (nI hn) zl zk zt vl 1 zg zi zw vg zo ze vc vr vt vo (bI vm) vp va vb vd vq zd vz :: aI cI zs 28 gs :: aI cI zv 168 gv :: aI cI zg 200 gg :: aI cI zi 100 gi :: aI cI zw 100 gw :: X) := pm_D hD 6 [0, 1, 2, 3, 4, 5] rfl rfl rfl
    refine top_i (y := 0) (by decide) ?_
    have c_17 : (0 : Int32) = 0 := by decide
    refine lv_if_ne (tgt := 22) hx hb dX9_put_17 (by decide) (fun q => absurd c_17 q) (fun _ => ?_)
    refine lv_iconst (v := 0) hx hb dX9_put_20 (by decide) ?_
    exact W.iret (v := 0) hx hb hr (fun t9 ht9 hW9 => ⟨⟨0, (1, hn, gs, gv, vg, gg, gi, gw), rfl, Or.inl ⟨bf_c c_6, rfl⟩, by rw [ht9]; exact hP, hD⟩, hS.F ht9⟩) hS.2.2 dX9_put_21
  · refine lv_iconst (v := 0) hx hb dX9_put_9 (by decide) ?_
    refine lv_goto (tgt := 14) hx hb dX9_put_10 (by decide) ?_
    refine cV_i CF hK hN hA hS (cut_of 6 [0, 1, 2, 3, 4, 5] hP hD rfl rfl rfl) (n_holds l D cI cZ cW cJ A (aI cI zs 28 gs :: aI cI zv 168 gv :: aI cI zg 200 gg :: aI cI zi 100 gi :: aI cI zw 100 gw :: X) mo zs zv zl zk zt zg zi zw zo ze zd (nI hn) vl vh vg vc vr vt vo vp va vb vd vq vm vz 0) (cwV 1 hts gX9_put_X9_holds rfl rfl rfl (by decide +kernel) ⟨Nat.le_of_ble_eq_true rfl, Nat.le_of_ble_eq_true rfl⟩) (As := [.int 0]) (rest := []) (ci := 9) (q0 := 0) rfl rfl rfl hl.1 rfl (Nat.le_of_ble_eq_true rfl) dX9_put_14 ⟨Nat.le_of_ble_eq_true rfl, Nat.le_of_ble_eq_true rfl⟩ (fun r_14 _ H locs hq hP hD hS => ?_)
    have hq : r_14 = bI (decide ((0 : Int32) = 0)) := hq
    subst hq
    have hP : va_P D vwCl (oX9 mo zs zv (nI hn) zl zk zt vl 0 zg zi zw vg zo ze vc vr vt vo (bI vm) vp va vb vd vq zd vz :: aI cI zs 28 gs :: aI cI zv 168 gv :: aI cI zg 200 gg :: aI cI zi 100 gi :: aI cI zw 100 gw :: X) H := pm_P hP 6 [0, 1, 2, 3, 4, 5] rfl
    have hD : va_D A (oX9 mo zs zv (nI hn) zl zk zt vl 0 zg zi zw vg zo ze vc vr vt vo (bI vm) vp va vb vd vq zd vz :: aI cI zs 28 gs :: aI cI zv 168 gv :: aI cI zg 200 gg :: aI cI zi 100 gi :: aI cI zw 100 gw :: X) := pm_D hD 6 [0, 1, 2, 3, 4, 5] rfl rfl rfl
    refine top_i (y := 1) (by decide) ?_
    have c_17 : ¬ (1 : Int32) = 0 := by decide
    refine lv_if_ne (tgt := 22) hx hb dX9_put_17 (by decide) (fun _ => ?_) (fun q => absurd q c_17)
    obtain ⟨ac, ar, hac, har, e1, e2⟩ := isCell_nI (bt_c c_6)
    have hK9 : putK S xc.toNatClampNeg xr.toNatClampNeg = putK S ac ar := by rw [e1, e2, nI_clamp (by omega), nI_clamp (by omega)]
    refine lv_aload_n hx hb dX9_put_22 rfl (lv_at hl 0 rfl) ?_
    refine cV_v CF hK hN hA hS (cut_of 6 [0, 1, 2, 3, 4, 5] hP hD rfl rfl rfl) (n_save l D cI cZ cW cJ A (aI cI zg 200 gg :: aI cI zi 100 gi :: aI cI zw 100 gw :: X) mo zs zv zl zk zt zg zi zw zo ze zd vl 0 vg vc vr vt vo vp va vb vd vq vm vz hn gs gv S hist hS0 hH) (cwV 0 hts gX9_put_X9_save rfl rfl rfl (by decide +kernel) ⟨Nat.le_of_ble_eq_true rfl, Nat.le_of_ble_eq_true rfl⟩) (As := []) (rest := []) (ci := 9) (q0 := 0) rfl rfl rfl hl.1 rfl (Nat.le_of_ble_eq_true rfl) dX9_put_23 ⟨Nat.le_of_ble_eq_true rfl, Nat.le_of_ble_eq_true rfl⟩ (fun u_23 H locs hq hP hD hS => ?_)
    have hq_23 : HistM (pushH hist hn S) (pushN hn) u_23 := hq
    have hP : va_P D vwCl (oX9 mo zs zv (nI (pushN hn)) zl zk zt vl 0 zg zi zw vg zo ze vc vr vt vo (bI vm) vp va vb vd vq zd vz :: aI cI zs 28 gs :: aI cI zv 168 u_23 :: aI cI zg 200 gg :: aI cI zi 100 gi :: aI cI zw 100 gw :: X) H := pm_P hP 6 [0, 1, 2, 3, 4, 5] rfl
    have hD : va_D A (oX9 mo zs zv (nI (pushN hn)) zl zk zt vl 0 zg zi zw vg zo ze vc vr vt vo (bI vm) vp va vb vd vq zd vz :: aI cI zs 28 gs :: aI cI zv 168 u_23 :: aI cI zg 200 gg :: aI cI zi 100 gi :: aI cI zw 100 gw :: X) := pm_D hD 6 [0, 1, 2, 3, 4, 5] rfl rfl rfl
    refine lv_aload_n hx hb dX9_put_26 rfl (lv_at hl 0 rfl) ?_
    refine lv_iload_n hx hb dX9_put_27 rfl (lv_at hl 1 rfl) ?_
    refine top_i (y := (nI ac)) e1 ?_
    refine lv_iload_n hx hb dX9_put_28 rfl (lv_at hl 2 rfl) ?_
    refine top_i (y := (nI ar)) e2 ?_
    refine cV_i CF hK hN hA hS (cut_of 6 [0, 1, 2, 3, 4, 5] hP hD rfl rfl rfl) (n_canStand l D cI cZ cW cJ A (aI cI zv 168 u_23 :: aI cI zg 200 gg :: aI cI zi 100 gi :: aI cI zw 100 gw :: X) mo zs zv zl zk zt zg zi zw zo ze zd (nI (pushN hn)) vl 0 vg vc vr vt vo vp va vb vd vq vm vz gs S (nI ac) (nI ar) hS0) (cwV 2 hts gX9_put_X9_canStand rfl rfl rfl (by decide +kernel) ⟨Nat.le_of_ble_eq_true rfl, Nat.le_of_ble_eq_true rfl⟩) (As := [.int (nI ac), .int (nI ar)]) (rest := []) (ci := 9) (q0 := 0) rfl rfl rfl hl.1 rfl (Nat.le_of_ble_eq_true rfl) dX9_put_29 ⟨Nat.le_of_ble_eq_true rfl, Nat.le_of_ble_eq_true rfl⟩ (fun r_29 _ H locs hq hP hD hS => ?_)
    have hq : r_29 = bI (stB (Bk S.1) (nI ac) (nI ar)) := hq
    subst hq
    have hP : va_P D vwCl (oX9 mo zs zv (nI (pushN hn)) zl zk zt vl 0 zg zi zw vg zo ze vc vr vt vo (bI vm) vp va vb vd vq zd vz :: aI cI zs 28 gs :: aI cI zv 168 u_23 :: aI cI zg 200 gg :: aI cI zi 100 gi :: aI cI zw 100 gw :: X) H := pm_P hP 6 [0, 1, 2, 3, 4, 5] rfl
    have hD : va_D A (oX9 mo zs zv (nI (pushN hn)) zl zk zt vl 0 zg zi zw vg zo ze vc vr vt vo (bI vm) vp va vb vd vq zd vz :: aI cI zs 28 gs :: aI cI zv 168 u_23 :: aI cI zg 200 gg :: aI cI zi 100 gi :: aI cI zw 100 gw :: X) := pm_D hD 6 [0, 1, 2, 3, 4, 5] rfl rfl rfl
    refine lv_if_ne (tgt := 40) hx hb dX9_put_32 (by decide) (fun c_32 => ?_) (fun c_32 => ?_)
    · refine lv_aload_n hx hb dX9_put_40 rfl (lv_at hl 0 rfl) ?_
      refine va_get (D := D) (ci := 9) (v := .ref zs) (C := RX9) (T := TX9) (N := 26) hx hb hts hiX9 hown hK hP 0 rfl rfl 0 (by decide) (hts (.fieldLink RX9 7 "LedgeLeapsModel" "s" "[I") (List.mem_of_getElem? (i := 1) rfl)) (fun _ h9 => h9) rfl dX9_put_41 ?_
      refine lv_bipush (v := 23) hx hb dX9_put_44 (by decide) ?_
      refine lv_iload_n hx hb dX9_put_46 rfl (lv_at hl 1 rfl) ?_
      refine top_i (y := (nI ac)) e1 ?_
      refine va_iast hx hb hK hP hD hS 1 0 rfl rfl (show ¬ ((23 : Int32) < 0 ∨ 28 ≤ (23 : Int32).toNatClampNeg) by decide) dX9_put_47 (fun H locs hP hD hS => ?_)
      have hP : va_P D vwCl (oX9 mo zs zv (nI (pushN hn)) zl zk zt vl 0 zg zi zw vg zo ze vc vr vt vo (bI vm) vp va vb vd vq zd vz :: aI cI zs 28 (upd gs 23 (nI ac)) :: aI cI zv 168 u_23 :: aI cI zg 200 gg :: aI cI zi 100 gi :: aI cI zw 100 gw :: X) H := hP
      have hD : va_D A (oX9 mo zs zv (nI (pushN hn)) zl zk zt vl 0 zg zi zw vg zo ze vc vr vt vo (bI vm) vp va vb vd vq zd vz :: aI cI zs 28 (upd gs 23 (nI ac)) :: aI cI zv 168 u_23 :: aI cI zg 200 gg :: aI cI zi 100 gi :: aI cI zw 100 gw :: X) := hD
      refine lv_aload_n hx hb dX9_put_48 rfl (lv_at hl 0 rfl) ?_
      refine va_get (D := D) (ci := 9) (v := .ref zs) (C := RX9) (T := TX9) (N := 26) hx hb hts hiX9 hown hK hP 0 rfl rfl 0 (by decide) (hts (.fieldLink RX9 7 "LedgeLeapsModel" "s" "[I") (List.mem_of_getElem? (i := 1) rfl)) (fun _ h9 => h9) rfl dX9_put_49 ?_
      refine lv_bipush (v := 24) hx hb dX9_put_52 (by decide) ?_
      refine lv_iload_n hx hb dX9_put_54 rfl (lv_at hl 2 rfl) ?_
      refine top_i (y := (nI ar)) e2 ?_
      refine va_iast hx hb hK hP hD hS 1 0 rfl rfl (show ¬ ((24 : Int32) < 0 ∨ 28 ≤ (24 : Int32).toNatClampNeg) by decide) dX9_put_55 (fun H locs hP hD hS => ?_)
      have hP : va_P D vwCl (oX9 mo zs zv (nI (pushN hn)) zl zk zt vl 0 zg zi zw vg zo ze vc vr vt vo (bI vm) vp va vb vd vq zd vz :: aI cI zs 28 (upd (upd gs 23 (nI ac)) 24 (nI ar)) :: aI cI zv 168 u_23 :: aI cI zg 200 gg :: aI cI zi 100 gi :: aI cI zw 100 gw :: X) H := hP
      have hD : va_D A (oX9 mo zs zv (nI (pushN hn)) zl zk zt vl 0 zg zi zw vg zo ze vc vr vt vo (bI vm) vp va vb vd vq zd vz :: aI cI zs 28 (upd (upd gs 23 (nI ac)) 24 (nI ar)) :: aI cI zv 168 u_23 :: aI cI zg 200 gg :: aI cI zi 100 gi :: aI cI zw 100 gw :: X) := hD
      have hA9 : AbsM (S.1, S.2.1, (ac, ar), S.2.2.2) (upd (upd gs 23 (nI ac)) 24 (nI ar)) := (hS0.col (x := nI ac) rfl).row (x := nI ar) rfl
      refine lv_aload_n hx hb dX9_put_56 rfl (lv_at hl 0 rfl) ?_
      refine cV_v CF hK hN hA hS (cut_of 6 [0, 1, 3, 4, 5, 2] hP hD rfl rfl rfl) (n_findLedges l D cI cZ cW cJ A (aI cI zv 168 u_23 :: X) mo zs zv zl zk zt zg zi zw zo ze zd (nI (pushN hn)) vl 0 vc vr vt vo vp va vb vd vq vm vz vg (upd (upd gs 23 (nI ac)) 24 (nI ar)) gg gi gw (S.1, S.2.1, (ac, ar), S.2.2.2) hA9) (cwV 0 hts gX9_put_X9_findLedges rfl rfl rfl (by decide +kernel) ⟨Nat.le_of_ble_eq_true rfl, Nat.le_of_ble_eq_true rfl⟩) (As := []) (rest := []) (ci := 9) (q0 := 0) rfl rfl rfl hl.1 rfl (Nat.le_of_ble_eq_true rfl) dX9_put_57 ⟨Nat.le_of_ble_eq_true rfl, Nat.le_of_ble_eq_true rfl⟩ (fun u_57 H locs hq hP hD hS => ?_)
      have hq_57 : MapM (S.1, S.2.1, (ac, ar), S.2.2.2) u_57.1 u_57.2.1 u_57.2.2 := hq
      have hP : va_P D vwCl (oX9 mo zs zv (nI (pushN hn)) zl zk zt vl 0 zg zi zw (nI (nS (S.1, S.2.1, (ac, ar), S.2.2.2))) zo ze vc vr vt vo (bI vm) vp va vb vd vq zd vz :: aI cI zs 28 (upd (upd gs 23 (nI ac)) 24 (nI ar)) :: aI cI zv 168 u_23 :: aI cI zg 200 u_57.1 :: aI cI zi 100 u_57.2.1 :: aI cI zw 100 u_57.2.2 :: X) H := pm_P hP 6 [0, 1, 5, 2, 3, 4] rfl
      have hD : va_D A (oX9 mo zs zv (nI (pushN hn)) zl zk zt vl 0 zg zi zw (nI (nS (S.1, S.2.1, (ac, ar), S.2.2.2))) zo ze vc vr vt vo (bI vm) vp va vb vd vq zd vz :: aI cI zs 28 (upd (upd gs 23 (nI ac)) 24 (nI ar)) :: aI cI zv 168 u_23 :: aI cI zg 200 u_57.1 :: aI cI zi 100 u_57.2.1 :: aI cI zw 100 u_57.2.2 :: X) := pm_D hD 6 [0, 1, 5, 2, 3, 4] rfl rfl rfl
      refine lv_aload_n hx hb dX9_put_60 rfl (lv_at hl 0 rfl) ?_
      refine lv_iload_n hx hb dX9_put_61 rfl (lv_at hl 1 rfl) ?_
      refine top_i (y := (nI ac)) e1 ?_
      refine lv_iload_n hx hb dX9_put_62 rfl (lv_at hl 2 rfl) ?_
      refine top_i (y := (nI ar)) e2 ?_
      refine cV_i CF hK hN hA hS (cut_of 6 [0, 3, 1, 2, 4, 5] hP hD rfl rfl rfl) (n_ledgeAt l D cI cZ cW cJ A (aI cI zs 28 (upd (upd gs 23 (nI ac)) 24 (nI ar)) :: aI cI zv 168 u_23 :: aI cI zi 100 u_57.2.1 :: aI cI zw 100 u_57.2.2 :: X) mo zs zv zl zk zt zg zi zw zo ze zd (nI (pushN hn)) vl 0 (nI (nS (S.1, S.2.1, (ac, ar), S.2.2.2))) vc vr vt vo vp va vb vd vq vm vz u_57.1 ac ar hac har) (cwV 2 hts gX9_put_X9_ledgeAt rfl rfl rfl (by decide +kernel) ⟨Nat.le_of_ble_eq_true rfl, Nat.le_of_ble_eq_true rfl⟩) (As := [.int (nI ac), .int (nI ar)]) (rest := []) (ci := 9) (q0 := 0) rfl rfl rfl hl.1 rfl (Nat.le_of_ble_eq_true rfl) dX9_put_63 ⟨Nat.le_of_ble_eq_true rfl, Nat.le_of_ble_eq_true rfl⟩ (fun r_63 _ H locs hq hP hD hS => ?_)
      have hq : r_63 = u_57.1 (20 * ar + ac) := hq
      subst hq
      have hP : va_P D vwCl (oX9 mo zs zv (nI (pushN hn)) zl zk zt vl 0 zg zi zw (nI (nS (S.1, S.2.1, (ac, ar), S.2.2.2))) zo ze vc vr vt vo (bI vm) vp va vb vd vq zd vz :: aI cI zs 28 (upd (upd gs 23 (nI ac)) 24 (nI ar)) :: aI cI zv 168 u_23 :: aI cI zg 200 u_57.1 :: aI cI zi 100 u_57.2.1 :: aI cI zw 100 u_57.2.2 :: X) H := pm_P hP 6 [0, 2, 3, 1, 4, 5] rfl
      have hD : va_D A (oX9 mo zs zv (nI (pushN hn)) zl zk zt vl 0 zg zi zw (nI (nS (S.1, S.2.1, (ac, ar), S.2.2.2))) zo ze vc vr vt vo (bI vm) vp va vb vd vq zd vz :: aI cI zs 28 (upd (upd gs 23 (nI ac)) 24 (nI ar)) :: aI cI zv 168 u_23 :: aI cI zg 200 u_57.1 :: aI cI zi 100 u_57.2.1 :: aI cI zw 100 u_57.2.2 :: X) := pm_D hD 6 [0, 2, 3, 1, 4, 5] rfl rfl rfl
      refine top_i (y := (lgF (SB (Bk S.1)) (20 * ar + ac))) (hq_57.1 _ (by omega)) ?_
      exact W.iret (v := (lgF (SB (Bk S.1)) (20 * ar + ac))) hx hb hr (fun t9 ht9 hW9 => ⟨⟨(lgF (SB (Bk S.1)) (20 * ar + ac)), (0, pushN hn, (upd (upd gs 23 (nI ac)) 24 (nI ar)), u_23, (nI (nS (S.1, S.2.1, (ac, ar), S.2.2.2))), u_57.1, u_57.2.1, u_57.2.2), rfl, Or.inr ⟨bt_c c_6, rfl, rfl, by rw [hK9, put_do (bt_c c_32)], by rw [hK9, put_do (bt_c c_32)]; exact hA9, hq_23⟩, by rw [ht9]; exact hP, hD⟩, hS.F ht9⟩) hS.2.2 dX9_put_66
    · refine lv_aload_n hx hb dX9_put_35 rfl (lv_at hl 0 rfl) ?_
      refine cV_i CF hK hN hA hS (cut_of 6 [0, 1, 2, 3, 4, 5] hP hD rfl rfl rfl) (n_refuse l D cI cZ cW cJ A (aI cI zv 168 u_23 :: aI cI zg 200 gg :: aI cI zi 100 gi :: aI cI zw 100 gw :: X) mo zs zv zl zk zt zg zi zw zo ze zd (nI (pushN hn)) vl 0 vg vc vr vt vo vp va vb vd vq vm vz gs S hS0) (cwV 0 hts gX9_put_X9_refuse rfl rfl rfl (by decide +kernel) ⟨Nat.le_of_ble_eq_true rfl, Nat.le_of_ble_eq_true rfl⟩) (As := []) (rest := []) (ci := 9) (q0 := 0) rfl rfl rfl hl.1 rfl (Nat.le_of_ble_eq_true rfl) dX9_put_36 ⟨Nat.le_of_ble_eq_true rfl, Nat.le_of_ble_eq_true rfl⟩ (fun r_36 u_36 H locs hq hP hD hS => ?_)
      have hq_36 : r_36 = (-1) ∧ AbsM (refK S) u_36 := hq
      have hr_36 : r_36 = (-1) := hq_36.1
      subst hr_36
      have hP : va_P D vwCl (oX9 mo zs zv (nI (pushN hn)) zl zk zt vl 0 zg zi zw vg zo ze vc vr vt vo (bI vm) vp va vb vd vq zd vz :: aI cI zs 28 u_36 :: aI cI zv 168 u_23 :: aI cI zg 200 gg :: aI cI zi 100 gi :: aI cI zw 100 gw :: X) H := pm_P hP 6 [0, 1, 2, 3, 4, 5] rfl
      have hD : va_D A (oX9 mo zs zv (nI (pushN hn)) zl zk zt vl 0 zg zi zw vg zo ze vc vr vt vo (bI vm) vp va vb vd vq zd vz :: aI cI zs 28 u_36 :: aI cI zv 168 u_23 :: aI cI zg 200 gg :: aI cI zi 100 gi :: aI cI zw 100 gw :: X) := pm_D hD 6 [0, 1, 2, 3, 4, 5] rfl rfl rfl
      exact W.iret (v := ((-1))) hx hb hr (fun t9 ht9 hW9 => ⟨⟨((-1)), (0, pushN hn, u_36, u_23, vg, gg, gi, gw), rfl, Or.inr ⟨bt_c c_6, rfl, rfl, by rw [hK9, put_no (bf_c c_32)], by rw [hK9, put_no (bf_c c_32)]; exact hq_36.2, hq_23⟩, by rw [ht9]; exact hP, hD⟩, hS.F ht9⟩) hS.2.2 dX9_put_39
theorem in_lh {x l h : Int32} (q : inX x l h = true) : ¬ x < l ∧ ¬ h < x := by
  unfold inX at q
  split at q
  · cases q
  · rename_i h1
    split at q
    · cases q
    · rename_i h2
      exact ⟨h1, h2⟩
theorem out_lh {x l h : Int32} (q : inX x l h = false) : x < l ∨ h < x := by
  unfold inX at q
  split at q
  · rename_i h1; exact Or.inl h1
  · split at q
    · rename_i h2; exact Or.inr h2
    · cases q
set_option maxHeartbeats 4000000 in
set_option maxRecDepth 100000 in
theorem n_append (l : Launch) (D : va_G) (cI cZ cW cJ : ClassId) (A : Nat → Prop) (X : va_W) (mo zs zv zl zk zt zg zi zw zo ze zd : Nat) (vn vh vg vc vr vt vo vp va vb vd vq : Int32) (vm : Bool) (vz : Int64) (tn : Nat) (gt : Nat → Int32) (xa : Int32) (htn : tn ≤ 60) : Met l yX9_append wsX9_append ({ frames := 1, cells := 0, slots := 0, locals := 22 }) (va_Pc [.ref mo, .int xa] (wd D (tyL cI cZ cW cJ) A (oX9 mo zs zv vn zl zk zt (nI tn) vh zg zi zw vg zo ze vc vr vt vo (bI vm) vp va vb vd vq zd vz :: aI cI zt 60 gt :: X))) (va_Qi (fun (r : Int32) (u : Int32 × Nat × (Nat → Int32)) => ((xa < 33 ∨ 126 < xa) ∧ u = (1, tn, gt)) ∨ (¬ xa < 33 ∧ ¬ 126 < xa ∧ tn = 60 ∧ u = (2, tn, gt)) ∨ (¬ xa < 33 ∧ ¬ 126 < xa ∧ tn < 60 ∧ u = (0, tn + 1, upd gt tn xa) ∧ r = nI (tn + 1))) (fun (u : Int32 × Nat × (Nat → Int32)) t => wq D A (oX9 mo zs zv vn zl zk zt (nI u.2.1) u.1 zg zi zw vg zo ze vc vr vt vo (bI vm) vp va vb vd vq zd vz :: aI cI zt 60 u.2.2 :: X) t) A) 0 0 A := by
  refine Met.ofW (cc := cX9_append) (maxL := 2) (ret := (some .int)) (by decide) rfl ?_
  intro p e s m args below meth c s₁ B hml hv
  obtain ⟨rfl, hsz9, hP, hK, hD, hN⟩ := hv
  have hx := B.exec
  have hb := B.bytes
  have hr := B.returns
  have hts := atoms_spec (ws := wsX9_append) B.pre
  have hown : s.vm.findClass RX9 = some m.cls := findClass_of_methodNamed B.named
  have hlocks := B.notSynchronized
  have CF : CallFix p m c cX9_append 2 s _ wsX9_append RX9 := ⟨hx, hb, hml, hown, hts⟩
  have hA : ∀ q : Nat, s.heap.size ≤ q → A q := hsz9
  have hS : va_S A s.heap s.heap [] := va_S.rf
  have hiX9 : ∀ w ∈ u_ws RX9 TX9 26, w ∈ wsX9_append := fun _ h => List.mem_cons_of_mem _ (List.mem_append_right _ (h))
  have hl := lv_entry ([.ref mo, .int xa]) (n := 2) (Nat.le_of_ble_eq_true rfl)
  rw [lg_entry_eq]
  generalize (lg_sl ([.ref mo, .int xa]) ++ List.replicate (2 - (lg_sl ([.ref mo, .int xa])).length) Slot.unset).toArray = ls at hl ⊢
  have hl : lv_has ls 2 [(0, .ref mo), (1, .int xa)] := hl
  show W p l e ({ frames := 1, cells := 0, slots := 0, locals := 22 } : Room) s m (([.ref mo, .int xa] : List Value).toArray) below meth c s.heap [] 0 0 (MQ below (va_Qi (fun (r : Int32) (u : Int32 × Nat × (Nat → Int32)) => ((xa < 33 ∨ 126 < xa) ∧ u = (1, tn, gt)) ∨ (¬ xa < 33 ∧ ¬ 126 < xa ∧ tn = 60 ∧ u = (2, tn, gt)) ∨ (¬ xa < 33 ∧ ¬ 126 < xa ∧ tn < 60 ∧ u = (0, tn + 1, upd gt tn xa) ∧ r = nI (tn + 1))) (fun (u : Int32 × Nat × (Nat → Int32)) t => wq D A (oX9 mo zs zv vn zl zk zt (nI u.2.1) u.1 zg zi zw vg zo ze vc vr vt vo (bI vm) vp va vb vd vq zd vz :: aI cI zt 60 u.2.2 :: X) t) A) (([.ref mo, .int xa] : List Value).toArray) s 0 0 A) (F0 m 0 ls [])
  refine lv_aload_n hx hb dX9_append_0 rfl (lv_at hl 0 rfl) ?_
  refine lv_iload_n hx hb dX9_append_1 rfl (lv_at hl 1 rfl) ?_
  refine lv_bipush (v := 33) hx hb dX9_append_2 (by decide) ?_
  refine lv_bipush (v := 126) hx hb dX9_append_4 (by decide) ?_
  refine cS_i CF hK hN hA hS (cut_of 2 [0, 1] hP hD rfl rfl rfl) (n_in l D cI cZ cW cJ A (oX9 mo zs zv vn zl zk zt (nI tn) vh zg zi zw vg zo ze vc vr vt vo (bI vm) vp va vb vd vq zd vz :: aI cI zt 60 gt :: X) xa 33 126) (va_cwS 3 hts gX9_append_X9_in rfl rfl rfl (by decide +kernel) ⟨Nat.le_of_ble_eq_true rfl, Nat.le_of_ble_eq_true rfl⟩) (As := [.int xa, .int 33, .int 126]) (rest := [.ref mo]) rfl hl.1 rfl (Nat.le_of_ble_eq_true rfl) dX9_append_6 ⟨Nat.le_of_ble_eq_true rfl, Nat.le_of_ble_eq_true rfl⟩ (fun r_6 _ H locs hq hP hD hS => ?_)
  have hq : r_6 = bI (inX xa 33 126) := hq
  subst hq
  have hP : va_P D vwCl (oX9 mo zs zv vn zl zk zt (nI tn) vh zg zi zw vg zo ze vc vr vt vo (bI vm) vp va vb vd vq zd vz :: aI cI zt 60 gt :: X) H := pm_P hP 2 [0, 1] rfl
  have hD : va_D A (oX9 mo zs zv vn zl zk zt (nI tn) vh zg zi zw vg zo ze vc vr vt vo (bI vm) vp va vb vd vq zd vz :: aI cI zt 60 gt :: X) := pm_D hD 2 [0, 1] rfl rfl rfl
  refine lv_if_ne (tgt := 16) hx hb dX9_append_9 (by decide) (fun c_9 => ?_) (fun c_9 => ?_)
  · refine lv_aload_n hx hb dX9_append_16 rfl (lv_at hl 0 rfl) ?_
    refine va_get (D := D) (ci := 9) (v := .int (nI tn)) (C := RX9) (T := TX9) (N := 26) hx hb hts hiX9 hown hK hP 0 rfl rfl 6 (by decide) (hts (.fieldLink RX9 143 "LedgeLeapsModel" "length" "I") (List.mem_of_getElem? (i := 1) rfl)) (fun _ h9 => h9) rfl dX9_append_17 ?_
    refine lv_bipush (v := 60) hx hb dX9_append_20 (by decide) ?_
    refine lv_icmp_ne (tgt := 29) hx hb dX9_append_22 (by decide) (fun c_22 => ?_) (fun c_22 => ?_)
    · refine lv_iconst (v := 0) hx hb dX9_append_29 (by decide) ?_
      refine cV_i CF hK hN hA hS (cut_of 2 [0, 1] hP hD rfl rfl rfl) (n_holds l D cI cZ cW cJ A (aI cI zt 60 gt :: X) mo zs zv zl zk zt zg zi zw zo ze zd vn (nI tn) vh vg vc vr vt vo vp va vb vd vq vm vz 0) (cwV 1 hts gX9_append_X9_holds rfl rfl rfl (by decide +kernel) ⟨Nat.le_of_ble_eq_true rfl, Nat.le_of_ble_eq_true rfl⟩) (As := [.int 0]) (rest := []) (ci := 9) (q0 := 0) rfl rfl rfl hl.1 rfl (Nat.le_of_ble_eq_true rfl) dX9_append_30 ⟨Nat.le_of_ble_eq_true rfl, Nat.le_of_ble_eq_true rfl⟩ (fun r_30 _ H locs hq hP hD hS => ?_)
      have hq : r_30 = bI (decide ((0 : Int32) = 0)) := hq
      subst hq
      have hP : va_P D vwCl (oX9 mo zs zv vn zl zk zt (nI tn) 0 zg zi zw vg zo ze vc vr vt vo (bI vm) vp va vb vd vq zd vz :: aI cI zt 60 gt :: X) H := pm_P hP 2 [0, 1] rfl
      have hD : va_D A (oX9 mo zs zv vn zl zk zt (nI tn) 0 zg zi zw vg zo ze vc vr vt vo (bI vm) vp va vb vd vq zd vz :: aI cI zt 60 gt :: X) := pm_D hD 2 [0, 1] rfl rfl rfl
      refine top_i (y := 1) (by decide) ?_
      have c_33 : ¬ (1 : Int32) = 0 := by decide
      refine lv_if_ne (tgt := 38) hx hb dX9_append_33 (by decide) (fun _ => ?_) (fun q => absurd q c_33)
      have htn6 : tn < 60 := by have h : ¬ tn = 60 := fun q => c_22 (by rw [q]; rfl); omega
      refine lv_aload_n hx hb dX9_append_38 rfl (lv_at hl 0 rfl) ?_
      refine va_get (D := D) (ci := 9) (v := .ref zt) (C := RX9) (T := TX9) (N := 26) hx hb hts hiX9 hown hK hP 0 rfl rfl 5 (by decide) (hts (.fieldLink RX9 23 "LedgeLeapsModel" "text" "[I") (List.mem_of_getElem? (i := 2) rfl)) (fun _ h9 => h9) rfl dX9_append_39 ?_
      refine lv_aload_n hx hb dX9_append_42 rfl (lv_at hl 0 rfl) ?_
      refine va_get (D := D) (ci := 9) (v := .int (nI tn)) (C := RX9) (T := TX9) (N := 26) hx hb hts hiX9 hown hK hP 0 rfl rfl 6 (by decide) (hts (.fieldLink RX9 143 "LedgeLeapsModel" "length" "I") (List.mem_of_getElem? (i := 1) rfl)) (fun _ h9 => h9) rfl dX9_append_43 ?_
      refine lv_iload_n hx hb dX9_append_46 rfl (lv_at hl 1 rfl) ?_
      refine va_iast hx hb hK hP hD hS 1 0 rfl rfl (vp_ix (e := tn) (rfl) (by omega) (by decide)) dX9_append_47 (fun H locs hP hD hS => ?_)
      rw [cl_ix (x := (nI tn)) (e := tn) (n := 60) (rfl) (by omega) (by decide)] at hP hD
      have hP : va_P D vwCl (oX9 mo zs zv vn zl zk zt (nI tn) 0 zg zi zw vg zo ze vc vr vt vo (bI vm) vp va vb vd vq zd vz :: aI cI zt 60 (upd gt tn xa) :: X) H := hP
      have hD : va_D A (oX9 mo zs zv vn zl zk zt (nI tn) 0 zg zi zw vg zo ze vc vr vt vo (bI vm) vp va vb vd vq zd vz :: aI cI zt 60 (upd gt tn xa) :: X) := hD
      refine lv_aload_n hx hb dX9_append_48 rfl (lv_at hl 0 rfl) ?_
      refine lv_dup hx hb dX9_append_49 rfl ?_
      refine va_get (D := D) (ci := 9) (v := .int (nI tn)) (C := RX9) (T := TX9) (N := 26) hx hb hts hiX9 hown hK hP 0 rfl rfl 6 (by decide) (hts (.fieldLink RX9 143 "LedgeLeapsModel" "length" "I") (List.mem_of_getElem? (i := 1) rfl)) (fun _ h9 => h9) rfl dX9_append_50 ?_
      refine lv_iconst (v := 1) hx hb dX9_append_53 (by decide) ?_
      refine lv_iadd hx hb dX9_append_54 ?_
      refine top_i (y := (nI (tn + 1))) (nI_1 tn) ?_
      refine va_put (D := D) (ci := 9) (v := .int (nI (tn + 1))) (ty := .int) (C := RX9) (T := TX9) (N := 26) hx hb hts hiX9 tyX9 tyX9_ok nmX9 hown hK hP hD hS 0 rfl rfl 6 (by decide) (hts (.fieldLink RX9 143 "LedgeLeapsModel" "length" "I") (List.mem_of_getElem? (i := 1) rfl)) (fun _ h9 => h9) rfl (by decide +kernel) rfl rfl (Nat.le_of_ble_eq_true rfl) dX9_append_55 (fun H locs hP hD hS => ?_)
      have hP : va_P D vwCl (oX9 mo zs zv vn zl zk zt (nI (tn + 1)) 0 zg zi zw vg zo ze vc vr vt vo (bI vm) vp va vb vd vq zd vz :: aI cI zt 60 (upd gt tn xa) :: X) H := hP
      have hD : va_D A (oX9 mo zs zv vn zl zk zt (nI (tn + 1)) 0 zg zi zw vg zo ze vc vr vt vo (bI vm) vp va vb vd vq zd vz :: aI cI zt 60 (upd gt tn xa) :: X) := hD
      refine lv_aload_n hx hb dX9_append_58 rfl (lv_at hl 0 rfl) ?_
      refine va_get (D := D) (ci := 9) (v := .int (nI (tn + 1))) (C := RX9) (T := TX9) (N := 26) hx hb hts hiX9 hown hK hP 0 rfl rfl 6 (by decide) (hts (.fieldLink RX9 143 "LedgeLeapsModel" "length" "I") (List.mem_of_getElem? (i := 1) rfl)) (fun _ h9 => h9) rfl dX9_append_59 ?_
      exact W.iret (v := (nI (tn + 1))) hx hb hr (fun t9 ht9 hW9 => ⟨⟨(nI (tn + 1)), (0, tn + 1, upd gt tn xa), rfl, Or.inr (Or.inr ⟨(in_lh (bt_c c_9)).1, (in_lh (bt_c c_9)).2, htn6, rfl, rfl⟩), by rw [ht9]; exact hP, hD⟩, hS.F ht9⟩) hS.2.2 dX9_append_62
    · refine lv_iconst (v := 2) hx hb dX9_append_25 (by decide) ?_
      refine lv_goto (tgt := 30) hx hb dX9_append_26 (by decide) ?_
      refine cV_i CF hK hN hA hS (cut_of 2 [0, 1] hP hD rfl rfl rfl) (n_holds l D cI cZ cW cJ A (aI cI zt 60 gt :: X) mo zs zv zl zk zt zg zi zw zo ze zd vn (nI tn) vh vg vc vr vt vo vp va vb vd vq vm vz 2) (cwV 1 hts gX9_append_X9_holds rfl rfl rfl (by decide +kernel) ⟨Nat.le_of_ble_eq_true rfl, Nat.le_of_ble_eq_true rfl⟩) (As := [.int 2]) (rest := []) (ci := 9) (q0 := 0) rfl rfl rfl hl.1 rfl (Nat.le_of_ble_eq_true rfl) dX9_append_30 ⟨Nat.le_of_ble_eq_true rfl, Nat.le_of_ble_eq_true rfl⟩ (fun r_30 _ H locs hq hP hD hS => ?_)
      have hq : r_30 = bI (decide ((2 : Int32) = 0)) := hq
      subst hq
      have hP : va_P D vwCl (oX9 mo zs zv vn zl zk zt (nI tn) 2 zg zi zw vg zo ze vc vr vt vo (bI vm) vp va vb vd vq zd vz :: aI cI zt 60 gt :: X) H := pm_P hP 2 [0, 1] rfl
      have hD : va_D A (oX9 mo zs zv vn zl zk zt (nI tn) 2 zg zi zw vg zo ze vc vr vt vo (bI vm) vp va vb vd vq zd vz :: aI cI zt 60 gt :: X) := pm_D hD 2 [0, 1] rfl rfl rfl
      refine top_i (y := 0) (by decide) ?_
      have c_33 : (0 : Int32) = 0 := by decide
      refine lv_if_ne (tgt := 38) hx hb dX9_append_33 (by decide) (fun q => absurd c_33 q) (fun _ => ?_)
      refine lv_iconst (v := 0) hx hb dX9_append_36 (by decide) ?_
      exact W.iret (v := 0) hx hb hr (fun t9 ht9 hW9 => ⟨⟨0, (2, tn, gt), rfl, Or.inr (Or.inl ⟨(in_lh (bt_c c_9)).1, (in_lh (bt_c c_9)).2, nI_inj (by omega) (by decide) c_22, rfl⟩), by rw [ht9]; exact hP, hD⟩, hS.F ht9⟩) hS.2.2 dX9_append_37
  · refine lv_iconst (v := 1) hx hb dX9_append_12 (by decide) ?_
    refine lv_goto (tgt := 30) hx hb dX9_append_13 (by decide) ?_
    refine cV_i CF hK hN hA hS (cut_of 2 [0, 1] hP hD rfl rfl rfl) (n_holds l D cI cZ cW cJ A (aI cI zt 60 gt :: X) mo zs zv zl zk zt zg zi zw zo ze zd vn (nI tn) vh vg vc vr vt vo vp va vb vd vq vm vz 1) (cwV 1 hts gX9_append_X9_holds rfl rfl rfl (by decide +kernel) ⟨Nat.le_of_ble_eq_true rfl, Nat.le_of_ble_eq_true rfl⟩) (As := [.int 1]) (rest := []) (ci := 9) (q0 := 0) rfl rfl rfl hl.1 rfl (Nat.le_of_ble_eq_true rfl) dX9_append_30 ⟨Nat.le_of_ble_eq_true rfl, Nat.le_of_ble_eq_true rfl⟩ (fun r_30 _ H locs hq hP hD hS => ?_)
    have hq : r_30 = bI (decide ((1 : Int32) = 0)) := hq
    subst hq
    have hP : va_P D vwCl (oX9 mo zs zv vn zl zk zt (nI tn) 1 zg zi zw vg zo ze vc vr vt vo (bI vm) vp va vb vd vq zd vz :: aI cI zt 60 gt :: X) H := pm_P hP 2 [0, 1] rfl
    have hD : va_D A (oX9 mo zs zv vn zl zk zt (nI tn) 1 zg zi zw vg zo ze vc vr vt vo (bI vm) vp va vb vd vq zd vz :: aI cI zt 60 gt :: X) := pm_D hD 2 [0, 1] rfl rfl rfl
    refine top_i (y := 0) (by decide) ?_
    have c_33 : (0 : Int32) = 0 := by decide
    refine lv_if_ne (tgt := 38) hx hb dX9_append_33 (by decide) (fun q => absurd c_33 q) (fun _ => ?_)
    refine lv_iconst (v := 0) hx hb dX9_append_36 (by decide) ?_
    exact W.iret (v := 0) hx hb hr (fun t9 ht9 hW9 => ⟨⟨0, (1, tn, gt), rfl, Or.inl ⟨out_lh (bf_c c_9), rfl⟩, by rw [ht9]; exact hP, hD⟩, hS.F ht9⟩) hS.2.2 dX9_append_37
set_option maxHeartbeats 4000000 in
set_option maxRecDepth 100000 in
theorem n_clearBuffer (l : Launch) (D : va_G) (cI cZ cW cJ : ClassId) (A : Nat → Prop) (X : va_W) (mo zs zv zl zk zt zg zi zw zo ze zd : Nat) (vn vl vh vg vc vr vt vo vp va vb vd vq : Int32) (vm : Bool) (vz : Int64) : Met l yX9_clearBuffer wsX9_clearBuffer ({ frames := 0, cells := 0, slots := 0, locals := 0 }) (va_Pc [.ref mo] (wd D (tyL cI cZ cW cJ) A (oX9 mo zs zv vn zl zk zt vl vh zg zi zw vg zo ze vc vr vt vo (bI vm) vp va vb vd vq zd vz :: X))) (va_Qi (fun (r : Int32) (u : Unit) => r = vl) (fun (u : Unit) t => wq D A (oX9 mo zs zv vn zl zk zt 0 0 zg zi zw vg zo ze vc vr vt vo (bI vm) vp va vb vd vq zd vz :: X) t) A) 0 0 A := by
  refine Met.ofW (cc := cX9_clearBuffer) (maxL := 2) (ret := (some .int)) (by decide) rfl ?_
  intro p e s m args below meth c s₁ B hml hv
  obtain ⟨rfl, hsz9, hP, hK, hD, hN⟩ := hv
  have hx := B.exec
  have hb := B.bytes
  have hr := B.returns
  have hts := atoms_spec (ws := wsX9_clearBuffer) B.pre
  have hown : s.vm.findClass RX9 = some m.cls := findClass_of_methodNamed B.named
  have hlocks := B.notSynchronized
  have CF : CallFix p m c cX9_clearBuffer 2 s _ wsX9_clearBuffer RX9 := ⟨hx, hb, hml, hown, hts⟩
  have hA : ∀ q : Nat, s.heap.size ≤ q → A q := hsz9
  have hS : va_S A s.heap s.heap [] := va_S.rf
  have hiX9 : ∀ w ∈ u_ws RX9 TX9 26, w ∈ wsX9_clearBuffer := fun _ h => List.mem_cons_of_mem _ (List.mem_append_right _ (h))
  have hl := lv_entry ([.ref mo]) (n := 2) (Nat.le_of_ble_eq_true rfl)
  rw [lg_entry_eq]
  generalize (lg_sl ([.ref mo]) ++ List.replicate (2 - (lg_sl ([.ref mo])).length) Slot.unset).toArray = ls at hl ⊢
  have hl : lv_has ls 2 [(0, .ref mo)] := hl
  show W p l e ({ frames := 0, cells := 0, slots := 0, locals := 0 } : Room) s m (([.ref mo] : List Value).toArray) below meth c s.heap [] 0 0 (MQ below (va_Qi (fun (r : Int32) (u : Unit) => r = vl) (fun (u : Unit) t => wq D A (oX9 mo zs zv vn zl zk zt 0 0 zg zi zw vg zo ze vc vr vt vo (bI vm) vp va vb vd vq zd vz :: X) t) A) (([.ref mo] : List Value).toArray) s 0 0 A) (F0 m 0 ls [])
  refine lv_aload_n hx hb dX9_clearBuffer_0 rfl (lv_at hl 0 rfl) ?_
  refine lv_iconst (v := 0) hx hb dX9_clearBuffer_1 (by decide) ?_
  refine va_put (D := D) (ci := 9) (v := .int 0) (ty := .int) (C := RX9) (T := TX9) (N := 26) hx hb hts hiX9 tyX9 tyX9_ok nmX9 hown hK hP hD hS 0 rfl rfl 7 (by decide) (hts (.fieldLink RX9 44 "LedgeLeapsModel" "thrown" "I") (List.mem_of_getElem? (i := 1) rfl)) (fun _ h9 => h9) rfl (by decide +kernel) rfl rfl (Nat.le_of_ble_eq_true rfl) dX9_clearBuffer_2 (fun H locs hP hD hS => ?_)
  have hP : va_P D vwCl (oX9 mo zs zv vn zl zk zt vl 0 zg zi zw vg zo ze vc vr vt vo (bI vm) vp va vb vd vq zd vz :: X) H := hP
  have hD : va_D A (oX9 mo zs zv vn zl zk zt vl 0 zg zi zw vg zo ze vc vr vt vo (bI vm) vp va vb vd vq zd vz :: X) := hD
  refine lv_aload_n hx hb dX9_clearBuffer_5 rfl (lv_at hl 0 rfl) ?_
  refine va_get (D := D) (ci := 9) (v := .int vl) (C := RX9) (T := TX9) (N := 26) hx hb hts hiX9 hown hK hP 0 rfl rfl 6 (by decide) (hts (.fieldLink RX9 143 "LedgeLeapsModel" "length" "I") (List.mem_of_getElem? (i := 2) rfl)) (fun _ h9 => h9) rfl dX9_clearBuffer_6 ?_
  refine lv_istore_n (lv' := [(1, .int vl), (0, .ref mo)]) hx hb dX9_clearBuffer_9 rfl hl (by decide) rfl (fun ls hl => ?_)
  refine lv_aload_n hx hb dX9_clearBuffer_10 rfl (lv_at hl 1 rfl) ?_
  refine lv_iconst (v := 0) hx hb dX9_clearBuffer_11 (by decide) ?_
  refine va_put (D := D) (ci := 9) (v := .int 0) (ty := .int) (C := RX9) (T := TX9) (N := 26) hx hb hts hiX9 tyX9 tyX9_ok nmX9 hown hK hP hD hS 0 rfl rfl 6 (by decide) (hts (.fieldLink RX9 143 "LedgeLeapsModel" "length" "I") (List.mem_of_getElem? (i := 2) rfl)) (fun _ h9 => h9) rfl (by decide +kernel) rfl rfl (Nat.le_of_ble_eq_true rfl) dX9_clearBuffer_12 (fun H locs hP hD hS => ?_)
  have hP : va_P D vwCl (oX9 mo zs zv vn zl zk zt 0 0 zg zi zw vg zo ze vc vr vt vo (bI vm) vp va vb vd vq zd vz :: X) H := hP
  have hD : va_D A (oX9 mo zs zv vn zl zk zt 0 0 zg zi zw vg zo ze vc vr vt vo (bI vm) vp va vb vd vq zd vz :: X) := hD
  refine lv_iload_n hx hb dX9_clearBuffer_15 rfl (lv_at hl 0 rfl) ?_
  exact W.iret (v := vl) hx hb hr (fun t9 ht9 hW9 => ⟨⟨vl, (), rfl, rfl, by rw [ht9]; exact hP, hD⟩, hS.F ht9⟩) hS.2.2 dX9_clearBuffer_16
set_option maxHeartbeats 4000000 in
set_option maxRecDepth 100000 in
theorem n_firstError (l : Launch) (D : va_G) (cI cZ cW cJ : ClassId) (A : Nat → Prop) (X : va_W) (mo zs zv zl zk zt zg zi zw zo ze zd : Nat) (vn vh vg vc vr vt vo vp va vb vd vq : Int32) (vm : Bool) (vz : Int64) (tn : Nat) (gt : Nat → Int32) (htn : tn ≤ 60) : Met l yX9_firstError wsX9_firstError ({ frames := 6, cells := 0, slots := 0, locals := 128 }) (va_Pc [.ref mo] (wd D (tyL cI cZ cW cJ) A (oX9 mo zs zv vn zl zk zt (nI tn) vh zg zi zw vg zo ze vc vr vt vo (bI vm) vp va vb vd vq zd vz :: aI cI zt 60 gt :: X))) (va_Qi (fun (r : Int32) (u : Int32 × Int32 × Int32 × Int32 × Int32) => r = nI (errN gt tn)) (fun (u : Int32 × Int32 × Int32 × Int32 × Int32) t => wq D A (oX9 mo zs zv vn zl zk zt (nI tn) 0 zg zi zw vg zo ze vc vr vt vo (bI vm) u.2.2.2.1 u.1 u.2.1 u.2.2.1 u.2.2.2.2 zd vz :: aI cI zt 60 gt :: X) t) A) 0 0 A := by
  refine Met.ofW (cc := cX9_firstError) (maxL := 1) (ret := (some .int)) (by decide) rfl ?_
  intro p e s m args below meth c s₁ B hml hv
  obtain ⟨rfl, hsz9, hP, hK, hD, hN⟩ := hv
  have hx := B.exec
  have hb := B.bytes
  have hr := B.returns
  have hts := atoms_spec (ws := wsX9_firstError) B.pre
  have hown : s.vm.findClass RX9 = some m.cls := findClass_of_methodNamed B.named
  have hlocks := B.notSynchronized
  have CF : CallFix p m c cX9_firstError 1 s _ wsX9_firstError RX9 := ⟨hx, hb, hml, hown, hts⟩
  have hA : ∀ q : Nat, s.heap.size ≤ q → A q := hsz9
  have hS : va_S A s.heap s.heap [] := va_S.rf
  have hiX9 : ∀ w ∈ u_ws RX9 TX9 26, w ∈ wsX9_firstError := fun _ h => List.mem_cons_of_mem _ (List.mem_append_right _ (h))
  have hl := lv_entry ([.ref mo]) (n := 1) (Nat.le_of_ble_eq_true rfl)
  rw [lg_entry_eq]
  generalize (lg_sl ([.ref mo]) ++ List.replicate (1 - (lg_sl ([.ref mo])).length) Slot.unset).toArray = ls at hl ⊢
  have hl : lv_has ls 1 [(0, .ref mo)] := hl
  show W p l e ({ frames := 6, cells := 0, slots := 0, locals := 128 } : Room) s m (([.ref mo] : List Value).toArray) below meth c s.heap [] 0 0 (MQ below (va_Qi (fun (r : Int32) (u : Int32 × Int32 × Int32 × Int32 × Int32) => r = nI (errN gt tn)) (fun (u : Int32 × Int32 × Int32 × Int32 × Int32) t => wq D A (oX9 mo zs zv vn zl zk zt (nI tn) 0 zg zi zw vg zo ze vc vr vt vo (bI vm) u.2.2.2.1 u.1 u.2.1 u.2.2.1 u.2.2.2.2 zd vz :: aI cI zt 60 gt :: X) t) A) (([.ref mo] : List Value).toArray) s 0 0 A) (F0 m 0 ls [])
  refine lv_aload_n hx hb dX9_firstError_0 rfl (lv_at hl 0 rfl) ?_
  refine lv_iconst (v := 0) hx hb dX9_firstError_1 (by decide) ?_
  refine va_put (D := D) (ci := 9) (v := .int 0) (ty := .int) (C := RX9) (T := TX9) (N := 26) hx hb hts hiX9 tyX9 tyX9_ok nmX9 hown hK hP hD hS 0 rfl rfl 7 (by decide) (hts (.fieldLink RX9 44 "LedgeLeapsModel" "thrown" "I") (List.mem_of_getElem? (i := 1) rfl)) (fun _ h9 => h9) rfl (by decide +kernel) rfl rfl (Nat.le_of_ble_eq_true rfl) dX9_firstError_2 (fun H locs hP hD hS => ?_)
  have hP : va_P D vwCl (oX9 mo zs zv vn zl zk zt (nI tn) 0 zg zi zw vg zo ze vc vr vt vo (bI vm) vp va vb vd vq zd vz :: aI cI zt 60 gt :: X) H := hP
  have hD : va_D A (oX9 mo zs zv vn zl zk zt (nI tn) 0 zg zi zw vg zo ze vc vr vt vo (bI vm) vp va vb vd vq zd vz :: aI cI zt 60 gt :: X) := hD
  refine lv_aload_n hx hb dX9_firstError_5 rfl (lv_at hl 0 rfl) ?_
  refine lv_iconst (v := 0) hx hb dX9_firstError_6 (by decide) ?_
  refine cV_i CF hK hN hA hS (cut_of 2 [0, 1] hP hD rfl rfl rfl) (n_readText0 l D cI cZ cW cJ A (X) mo zs zv zl zk zt zg zi zw zo ze zd vn 0 vg vc vr vt vo vp va vb vd vq vm vz tn gt htn) (cwV 1 hts gX9_firstError_X9_readText rfl rfl rfl (by decide +kernel) ⟨Nat.le_of_ble_eq_true rfl, Nat.le_of_ble_eq_true rfl⟩) (As := [.int 0]) (rest := []) (ci := 9) (q0 := 0) rfl rfl rfl hl.1 rfl (Nat.le_of_ble_eq_true rfl) dX9_firstError_7 ⟨Nat.le_of_ble_eq_true rfl, Nat.le_of_ble_eq_true rfl⟩ (fun r_7 u_7 H locs hq hP hD hS => ?_)
  have hq_7 : r_7 = bI (mTxt gt tn (tn + 2) 0).1 ∧ u_7.2.2.2.1 = (mTxt gt tn (tn + 2) 0).2 := hq
  have hr_7 : r_7 = bI (mTxt gt tn (tn + 2) 0).1 := hq_7.1
  subst hr_7
  have hP : va_P D vwCl (oX9 mo zs zv vn zl zk zt (nI tn) 0 zg zi zw vg zo ze vc vr vt vo (bI vm) (nI u_7.2.2.2.1) u_7.1 u_7.2.1 u_7.2.2.1 u_7.2.2.2.2 zd vz :: aI cI zt 60 gt :: X) H := pm_P hP 2 [0, 1] rfl
  have hD : va_D A (oX9 mo zs zv vn zl zk zt (nI tn) 0 zg zi zw vg zo ze vc vr vt vo (bI vm) (nI u_7.2.2.2.1) u_7.1 u_7.2.1 u_7.2.2.1 u_7.2.2.2.2 zd vz :: aI cI zt 60 gt :: X) := pm_D hD 2 [0, 1] rfl rfl rfl
  obtain ⟨t1, t2⟩ := txt_dfa (co := gt) (n := tn) (tn + 2) 0 (by omega) (Nat.zero_le _) rfl
  refine lv_if_eq (tgt := 20) hx hb dX9_firstError_10 (by decide) (fun c_10 => ?_) (fun c_10 => ?_)
  · refine lv_aload_n hx hb dX9_firstError_20 rfl (lv_at hl 0 rfl) ?_
    refine va_get (D := D) (ci := 9) (v := .int (nI u_7.2.2.2.1)) (C := RX9) (T := TX9) (N := 26) hx hb hts hiX9 hown hK hP 0 rfl rfl 19 (by decide) (hts (.fieldLink RX9 146 "LedgeLeapsModel" "place" "I") (List.mem_of_getElem? (i := 3) rfl)) (fun _ h9 => h9) rfl dX9_firstError_21 ?_
    exact W.iret (v := (nI u_7.2.2.2.1)) hx hb hr (fun t9 ht9 hW9 => ⟨⟨(nI u_7.2.2.2.1), (u_7.1, u_7.2.1, u_7.2.2.1, (nI u_7.2.2.2.1), u_7.2.2.2.2), rfl, by rw [← t2, ← hq_7.2], by rw [ht9]; exact hP, hD⟩, hS.F ht9⟩) hS.2.2 dX9_firstError_24
  · refine lv_aload_n hx hb dX9_firstError_13 rfl (lv_at hl 0 rfl) ?_
    refine va_get (D := D) (ci := 9) (v := .int (nI tn)) (C := RX9) (T := TX9) (N := 26) hx hb hts hiX9 hown hK hP 0 rfl rfl 6 (by decide) (hts (.fieldLink RX9 143 "LedgeLeapsModel" "length" "I") (List.mem_of_getElem? (i := 2) rfl)) (fun _ h9 => h9) rfl dX9_firstError_14 ?_
    refine lv_goto (tgt := 24) hx hb dX9_firstError_17 (by decide) ?_
    exact W.iret (v := (nI tn)) hx hb hr (fun t9 ht9 hW9 => ⟨⟨(nI tn), (u_7.1, u_7.2.1, u_7.2.2.1, (nI u_7.2.2.2.1), u_7.2.2.2.2), rfl, by rw [errN_ok (by rw [t1.mp (bt_c c_10)]; decide)], by rw [ht9]; exact hP, hD⟩, hS.F ht9⟩) hS.2.2 dX9_firstError_24
set_option maxHeartbeats 4000000 in
set_option maxRecDepth 100000 in
theorem n_run (l : Launch) (D : va_G) (cI cZ cW cJ : ClassId) (A : Nat → Prop) (X : va_W) (mo zs zv zl zk zt zg zi zw zo ze zd : Nat) (vh vg vc vr vt vo vp va vb vd vq : Int32) (vm : Bool) (vz : Int64) (hn tn : Nat) (gs gv gt : Nat → Int32) (S : KS) (hist : Nat → KS) (hS0 : AbsM S gs) (hWf : Wf S) (hH : HistM hist hn gv) (htn : tn ≤ 60) : Met l yX9_run wsX9_run ({ frames := 9, cells := 0, slots := 0, locals := 204 }) (va_Pc [.ref mo] (wd D (tyL cI cZ cW cJ) A (oX9 mo zs zv (nI hn) zl zk zt (nI tn) vh zg zi zw vg zo ze vc vr vt vo (bI vm) vp va vb vd vq zd vz :: aI cI zs 28 gs :: aI cI zv 168 gv :: aI cI zt 60 gt :: X))) (va_Qi (fun (r : Int32) (u : Int32 × Nat × Nat × (Nat → Int32) × (Nat → Int32) × (Int32 × Int32 × Int32 × Int32 × Int32) × (Int32 × Int32 × Int32 × Int32 × Bool)) => (¬ dfaE gt tn = 8 ∧ u.1 = 1 ∧ u.2.1 = tn ∧ u.2.2.1 = hn ∧ u.2.2.2.1 = gs ∧ u.2.2.2.2.1 = gv) ∨ (dfaE gt tn = 8 ∧ u.1 = 0 ∧ u.2.1 = 0 ∧ u.2.2.1 = pushN hn ∧ r = nI (runS gt tn S).2 ∧ AbsM (runS gt tn S).1 u.2.2.2.1 ∧ HistM (pushH hist hn S) (pushN hn) u.2.2.2.2.1)) (fun (u : Int32 × Nat × Nat × (Nat → Int32) × (Nat → Int32) × (Int32 × Int32 × Int32 × Int32 × Int32) × (Int32 × Int32 × Int32 × Int32 × Bool)) t => wq D A (oX9 mo zs zv (nI u.2.2.1) zl zk zt (nI u.2.1) u.1 zg zi zw vg zo ze u.2.2.2.2.2.2.1 u.2.2.2.2.2.2.2.1 u.2.2.2.2.2.2.2.2.1 u.2.2.2.2.2.2.2.2.2.1 (bI u.2.2.2.2.2.2.2.2.2.2) u.2.2.2.2.2.1.2.2.2.1 u.2.2.2.2.2.1.1 u.2.2.2.2.2.1.2.1 u.2.2.2.2.2.1.2.2.1 u.2.2.2.2.2.1.2.2.2.2 zd vz :: aI cI zs 28 u.2.2.2.1 :: aI cI zv 168 u.2.2.2.2.1 :: aI cI zt 60 gt :: X) t) A) 0 0 A := by
  refine Met.ofW (cc := cX9_run) (maxL := 2) (ret := (some .int)) (by decide) rfl ?_
  intro p e s m args below meth c s₁ B hml hv
  obtain ⟨rfl, hsz9, hP, hK, hD, hN⟩ := hv
  have hx := B.exec
  have hb := B.bytes
  have hr := B.returns
  have hts := atoms_spec (ws := wsX9_run) B.pre
  have hown : s.vm.findClass RX9 = some m.cls := findClass_of_methodNamed B.named
  have hlocks := B.notSynchronized
  have CF : CallFix p m c cX9_run 2 s _ wsX9_run RX9 := ⟨hx, hb, hml, hown, hts⟩
  have hA : ∀ q : Nat, s.heap.size ≤ q → A q := hsz9
  have hS : va_S A s.heap s.heap [] := va_S.rf
  have hiX9 : ∀ w ∈ u_ws RX9 TX9 26, w ∈ wsX9_run := fun _ h => List.mem_cons_of_mem _ (List.mem_append_right _ (h))
  have hl := lv_entry ([.ref mo]) (n := 2) (Nat.le_of_ble_eq_true rfl)
  rw [lg_entry_eq]
  generalize (lg_sl ([.ref mo]) ++ List.replicate (2 - (lg_sl ([.ref mo])).length) Slot.unset).toArray = ls at hl ⊢
  have hl : lv_has ls 2 [(0, .ref mo)] := hl
  show W p l e ({ frames := 9, cells := 0, slots := 0, locals := 204 } : Room) s m (([.ref mo] : List Value).toArray) below meth c s.heap [] 0 0 (MQ below (va_Qi (fun (r : Int32) (u : Int32 × Nat × Nat × (Nat → Int32) × (Nat → Int32) × (Int32 × Int32 × Int32 × Int32 × Int32) × (Int32 × Int32 × Int32 × Int32 × Bool)) => (¬ dfaE gt tn = 8 ∧ u.1 = 1 ∧ u.2.1 = tn ∧ u.2.2.1 = hn ∧ u.2.2.2.1 = gs ∧ u.2.2.2.2.1 = gv) ∨ (dfaE gt tn = 8 ∧ u.1 = 0 ∧ u.2.1 = 0 ∧ u.2.2.1 = pushN hn ∧ r = nI (runS gt tn S).2 ∧ AbsM (runS gt tn S).1 u.2.2.2.1 ∧ HistM (pushH hist hn S) (pushN hn) u.2.2.2.2.1)) (fun (u : Int32 × Nat × Nat × (Nat → Int32) × (Nat → Int32) × (Int32 × Int32 × Int32 × Int32 × Int32) × (Int32 × Int32 × Int32 × Int32 × Bool)) t => wq D A (oX9 mo zs zv (nI u.2.2.1) zl zk zt (nI u.2.1) u.1 zg zi zw vg zo ze u.2.2.2.2.2.2.1 u.2.2.2.2.2.2.2.1 u.2.2.2.2.2.2.2.2.1 u.2.2.2.2.2.2.2.2.2.1 (bI u.2.2.2.2.2.2.2.2.2.2) u.2.2.2.2.2.1.2.2.2.1 u.2.2.2.2.2.1.1 u.2.2.2.2.2.1.2.1 u.2.2.2.2.2.1.2.2.1 u.2.2.2.2.2.1.2.2.2.2 zd vz :: aI cI zs 28 u.2.2.2.1 :: aI cI zv 168 u.2.2.2.2.1 :: aI cI zt 60 gt :: X) t) A) (([.ref mo] : List Value).toArray) s 0 0 A) (F0 m 0 ls [])
  refine lv_aload_n hx hb dX9_run_0 rfl (lv_at hl 0 rfl) ?_
  refine lv_aload_n hx hb dX9_run_1 rfl (lv_at hl 0 rfl) ?_
  refine lv_iconst (v := 0) hx hb dX9_run_2 (by decide) ?_
  refine cV_i CF hK hN hA hS (cut_of 4 [0, 3, 1, 2] hP hD rfl rfl rfl) (n_readText0 l D cI cZ cW cJ A (aI cI zs 28 gs :: aI cI zv 168 gv :: X) mo zs zv zl zk zt zg zi zw zo ze zd (nI hn) vh vg vc vr vt vo vp va vb vd vq vm vz tn gt htn) (cwV 1 hts gX9_run_X9_readText rfl rfl rfl (by decide +kernel) ⟨Nat.le_of_ble_eq_true rfl, Nat.le_of_ble_eq_true rfl⟩) (As := [.int 0]) (rest := [.ref mo]) (ci := 9) (q0 := 0) rfl rfl rfl hl.1 rfl (Nat.le_of_ble_eq_true rfl) dX9_run_3 ⟨Nat.le_of_ble_eq_true rfl, Nat.le_of_ble_eq_true rfl⟩ (fun r_3 u_3 H locs hq hP hD hS => ?_)
  have hq_3 : r_3 = bI (mTxt gt tn (tn + 2) 0).1 ∧ u_3.2.2.2.1 = (mTxt gt tn (tn + 2) 0).2 := hq
  have hr_3 : r_3 = bI (mTxt gt tn (tn + 2) 0).1 := hq_3.1
  subst hr_3
  have hP : va_P D vwCl (oX9 mo zs zv (nI hn) zl zk zt (nI tn) vh zg zi zw vg zo ze vc vr vt vo (bI vm) (nI u_3.2.2.2.1) u_3.1 u_3.2.1 u_3.2.2.1 u_3.2.2.2.2 zd vz :: aI cI zs 28 gs :: aI cI zv 168 gv :: aI cI zt 60 gt :: X) H := pm_P hP 4 [0, 2, 3, 1] rfl
  have hD : va_D A (oX9 mo zs zv (nI hn) zl zk zt (nI tn) vh zg zi zw vg zo ze vc vr vt vo (bI vm) (nI u_3.2.2.2.1) u_3.1 u_3.2.1 u_3.2.2.1 u_3.2.2.2.2 zd vz :: aI cI zs 28 gs :: aI cI zv 168 gv :: aI cI zt 60 gt :: X) := pm_D hD 4 [0, 2, 3, 1] rfl rfl rfl
  obtain ⟨t1, t2⟩ := txt_dfa (co := gt) (n := tn) (tn + 2) 0 (by omega) (Nat.zero_le _) rfl
  refine lv_if_eq (tgt := 13) hx hb dX9_run_6 (by decide) (fun c_6 => ?_) (fun c_6 => ?_)
  · refine lv_iconst (v := 1) hx hb dX9_run_13 (by decide) ?_
    refine cV_i CF hK hN hA hS (cut_of 4 [0, 1, 2, 3] hP hD rfl rfl rfl) (n_holds l D cI cZ cW cJ A (aI cI zs 28 gs :: aI cI zv 168 gv :: aI cI zt 60 gt :: X) mo zs zv zl zk zt zg zi zw zo ze zd (nI hn) (nI tn) vh vg vc vr vt vo (nI u_3.2.2.2.1) u_3.1 u_3.2.1 u_3.2.2.1 u_3.2.2.2.2 vm vz 1) (cwV 1 hts gX9_run_X9_holds rfl rfl rfl (by decide +kernel) ⟨Nat.le_of_ble_eq_true rfl, Nat.le_of_ble_eq_true rfl⟩) (As := [.int 1]) (rest := []) (ci := 9) (q0 := 0) rfl rfl rfl hl.1 rfl (Nat.le_of_ble_eq_true rfl) dX9_run_14 ⟨Nat.le_of_ble_eq_true rfl, Nat.le_of_ble_eq_true rfl⟩ (fun r_14 _ H locs hq hP hD hS => ?_)
    have hq : r_14 = bI (decide ((1 : Int32) = 0)) := hq
    subst hq
    have hP : va_P D vwCl (oX9 mo zs zv (nI hn) zl zk zt (nI tn) 1 zg zi zw vg zo ze vc vr vt vo (bI vm) (nI u_3.2.2.2.1) u_3.1 u_3.2.1 u_3.2.2.1 u_3.2.2.2.2 zd vz :: aI cI zs 28 gs :: aI cI zv 168 gv :: aI cI zt 60 gt :: X) H := pm_P hP 4 [0, 1, 2, 3] rfl
    have hD : va_D A (oX9 mo zs zv (nI hn) zl zk zt (nI tn) 1 zg zi zw vg zo ze vc vr vt vo (bI vm) (nI u_3.2.2.2.1) u_3.1 u_3.2.1 u_3.2.2.1 u_3.2.2.2.2 zd vz :: aI cI zs 28 gs :: aI cI zv 168 gv :: aI cI zt 60 gt :: X) := pm_D hD 4 [0, 1, 2, 3] rfl rfl rfl
    refine top_i (y := 0) (by decide) ?_
    have c_17 : (0 : Int32) = 0 := by decide
    refine lv_if_ne (tgt := 22) hx hb dX9_run_17 (by decide) (fun q => absurd c_17 q) (fun _ => ?_)
    refine lv_iconst (v := 0) hx hb dX9_run_20 (by decide) ?_
    exact W.iret (v := 0) hx hb hr (fun t9 ht9 hW9 => ⟨⟨0, (1, tn, hn, gs, gv, (u_3.1, u_3.2.1, u_3.2.2.1, (nI u_3.2.2.2.1), u_3.2.2.2.2), (vc, vr, vt, vo, vm)), rfl, Or.inl ⟨(fun q => by have h := t1.mpr q; rw [bf_c c_6] at h; cases h), rfl, rfl, rfl, rfl, rfl⟩, by rw [ht9]; exact hP, hD⟩, hS.F ht9⟩) hS.2.2 dX9_run_21
  · refine lv_iconst (v := 0) hx hb dX9_run_9 (by decide) ?_
    refine lv_goto (tgt := 14) hx hb dX9_run_10 (by decide) ?_
    refine cV_i CF hK hN hA hS (cut_of 4 [0, 1, 2, 3] hP hD rfl rfl rfl) (n_holds l D cI cZ cW cJ A (aI cI zs 28 gs :: aI cI zv 168 gv :: aI cI zt 60 gt :: X) mo zs zv zl zk zt zg zi zw zo ze zd (nI hn) (nI tn) vh vg vc vr vt vo (nI u_3.2.2.2.1) u_3.1 u_3.2.1 u_3.2.2.1 u_3.2.2.2.2 vm vz 0) (cwV 1 hts gX9_run_X9_holds rfl rfl rfl (by decide +kernel) ⟨Nat.le_of_ble_eq_true rfl, Nat.le_of_ble_eq_true rfl⟩) (As := [.int 0]) (rest := []) (ci := 9) (q0 := 0) rfl rfl rfl hl.1 rfl (Nat.le_of_ble_eq_true rfl) dX9_run_14 ⟨Nat.le_of_ble_eq_true rfl, Nat.le_of_ble_eq_true rfl⟩ (fun r_14 _ H locs hq hP hD hS => ?_)
    have hq : r_14 = bI (decide ((0 : Int32) = 0)) := hq
    subst hq
    have hP : va_P D vwCl (oX9 mo zs zv (nI hn) zl zk zt (nI tn) 0 zg zi zw vg zo ze vc vr vt vo (bI vm) (nI u_3.2.2.2.1) u_3.1 u_3.2.1 u_3.2.2.1 u_3.2.2.2.2 zd vz :: aI cI zs 28 gs :: aI cI zv 168 gv :: aI cI zt 60 gt :: X) H := pm_P hP 4 [0, 1, 2, 3] rfl
    have hD : va_D A (oX9 mo zs zv (nI hn) zl zk zt (nI tn) 0 zg zi zw vg zo ze vc vr vt vo (bI vm) (nI u_3.2.2.2.1) u_3.1 u_3.2.1 u_3.2.2.1 u_3.2.2.2.2 zd vz :: aI cI zs 28 gs :: aI cI zv 168 gv :: aI cI zt 60 gt :: X) := pm_D hD 4 [0, 1, 2, 3] rfl rfl rfl
    refine top_i (y := 1) (by decide) ?_
    have c_17 : ¬ (1 : Int32) = 0 := by decide
    refine lv_if_ne (tgt := 22) hx hb dX9_run_17 (by decide) (fun _ => ?_) (fun q => absurd q c_17)
    have h8 : dfaE gt tn = 8 := t1.mp (bt_c c_6)
    refine lv_aload_n hx hb dX9_run_22 rfl (lv_at hl 0 rfl) ?_
    refine cV_v CF hK hN hA hS (cut_of 4 [0, 1, 2, 3] hP hD rfl rfl rfl) (n_save l D cI cZ cW cJ A (aI cI zt 60 gt :: X) mo zs zv zl zk zt zg zi zw zo ze zd (nI tn) 0 vg vc vr vt vo (nI u_3.2.2.2.1) u_3.1 u_3.2.1 u_3.2.2.1 u_3.2.2.2.2 vm vz hn gs gv S hist hS0 hH) (cwV 0 hts gX9_run_X9_save rfl rfl rfl (by decide +kernel) ⟨Nat.le_of_ble_eq_true rfl, Nat.le_of_ble_eq_true rfl⟩) (As := []) (rest := []) (ci := 9) (q0 := 0) rfl rfl rfl hl.1 rfl (Nat.le_of_ble_eq_true rfl) dX9_run_23 ⟨Nat.le_of_ble_eq_true rfl, Nat.le_of_ble_eq_true rfl⟩ (fun u_23 H locs hq hP hD hS => ?_)
    have hq_23 : HistM (pushH hist hn S) (pushN hn) u_23 := hq
    have hP : va_P D vwCl (oX9 mo zs zv (nI (pushN hn)) zl zk zt (nI tn) 0 zg zi zw vg zo ze vc vr vt vo (bI vm) (nI u_3.2.2.2.1) u_3.1 u_3.2.1 u_3.2.2.1 u_3.2.2.2.2 zd vz :: aI cI zs 28 gs :: aI cI zv 168 u_23 :: aI cI zt 60 gt :: X) H := pm_P hP 4 [0, 1, 2, 3] rfl
    have hD : va_D A (oX9 mo zs zv (nI (pushN hn)) zl zk zt (nI tn) 0 zg zi zw vg zo ze vc vr vt vo (bI vm) (nI u_3.2.2.2.1) u_3.1 u_3.2.1 u_3.2.2.1 u_3.2.2.2.2 zd vz :: aI cI zs 28 gs :: aI cI zv 168 u_23 :: aI cI zt 60 gt :: X) := pm_D hD 4 [0, 1, 2, 3] rfl rfl rfl
    refine lv_aload_n hx hb dX9_run_26 rfl (lv_at hl 0 rfl) ?_
    refine lv_iconst (v := 1) hx hb dX9_run_27 (by decide) ?_
    refine cV_i CF hK hN hA hS (cut_of 4 [0, 3, 1, 2] hP hD rfl rfl rfl) (n_readText1 l D cI cZ cW cJ A (aI cI zv 168 u_23 :: X) mo zs zv zl zk zt zg zi zw zo ze zd (nI (pushN hn)) 0 vg vc vr vt vo (nI u_3.2.2.2.1) u_3.1 u_3.2.1 u_3.2.2.1 u_3.2.2.2.2 vm vz tn gt gs S htn h8 hS0 hWf) (cwV 1 hts gX9_run_X9_readText rfl rfl rfl (by decide +kernel) ⟨Nat.le_of_ble_eq_true rfl, Nat.le_of_ble_eq_true rfl⟩) (As := [.int 1]) (rest := []) (ci := 9) (q0 := 0) rfl rfl rfl hl.1 rfl (Nat.le_of_ble_eq_true rfl) dX9_run_28 ⟨Nat.le_of_ble_eq_true rfl, Nat.le_of_ble_eq_true rfl⟩ (fun r_28 u_28 H locs hq hP hD hS => ?_)
    have hq_28 : r_28 = 1 ∧ u_28.1.2.2.2.2 = nI (runS gt tn S).2 ∧ AbsM (runS gt tn S).1 u_28.2.2 := hq
    have hr_28 : r_28 = 1 := hq_28.1
    subst hr_28
    have hP : va_P D vwCl (oX9 mo zs zv (nI (pushN hn)) zl zk zt (nI tn) 0 zg zi zw vg zo ze u_28.2.1.1 u_28.2.1.2.1 u_28.2.1.2.2.1 u_28.2.1.2.2.2.1 (bI u_28.2.1.2.2.2.2) (nI u_28.1.2.2.2.1) u_28.1.1 u_28.1.2.1 u_28.1.2.2.1 u_28.1.2.2.2.2 zd vz :: aI cI zs 28 u_28.2.2 :: aI cI zv 168 u_23 :: aI cI zt 60 gt :: X) H := pm_P hP 4 [0, 2, 3, 1] rfl
    have hD : va_D A (oX9 mo zs zv (nI (pushN hn)) zl zk zt (nI tn) 0 zg zi zw vg zo ze u_28.2.1.1 u_28.2.1.2.1 u_28.2.1.2.2.1 u_28.2.1.2.2.2.1 (bI u_28.2.1.2.2.2.2) (nI u_28.1.2.2.2.1) u_28.1.1 u_28.1.2.1 u_28.1.2.2.1 u_28.1.2.2.2.2 zd vz :: aI cI zs 28 u_28.2.2 :: aI cI zv 168 u_23 :: aI cI zt 60 gt :: X) := pm_D hD 4 [0, 2, 3, 1] rfl rfl rfl
    refine lv_istore_n (lv' := [(1, .int (1)), (0, .ref mo)]) hx hb dX9_run_31 rfl hl (by decide) rfl (fun ls hl => ?_)
    refine lv_aload_n hx hb dX9_run_32 rfl (lv_at hl 1 rfl) ?_
    refine lv_iconst (v := 0) hx hb dX9_run_33 (by decide) ?_
    refine va_put (D := D) (ci := 9) (v := .int 0) (ty := .int) (C := RX9) (T := TX9) (N := 26) hx hb hts hiX9 tyX9 tyX9_ok nmX9 hown hK hP hD hS 0 rfl rfl 6 (by decide) (hts (.fieldLink RX9 143 "LedgeLeapsModel" "length" "I") (List.mem_of_getElem? (i := 1) rfl)) (fun _ h9 => h9) rfl (by decide +kernel) rfl rfl (Nat.le_of_ble_eq_true rfl) dX9_run_34 (fun H locs hP hD hS => ?_)
    have hP : va_P D vwCl (oX9 mo zs zv (nI (pushN hn)) zl zk zt 0 0 zg zi zw vg zo ze u_28.2.1.1 u_28.2.1.2.1 u_28.2.1.2.2.1 u_28.2.1.2.2.2.1 (bI u_28.2.1.2.2.2.2) (nI u_28.1.2.2.2.1) u_28.1.1 u_28.1.2.1 u_28.1.2.2.1 u_28.1.2.2.2.2 zd vz :: aI cI zs 28 u_28.2.2 :: aI cI zv 168 u_23 :: aI cI zt 60 gt :: X) H := hP
    have hD : va_D A (oX9 mo zs zv (nI (pushN hn)) zl zk zt 0 0 zg zi zw vg zo ze u_28.2.1.1 u_28.2.1.2.1 u_28.2.1.2.2.1 u_28.2.1.2.2.2.1 (bI u_28.2.1.2.2.2.2) (nI u_28.1.2.2.2.1) u_28.1.1 u_28.1.2.1 u_28.1.2.2.1 u_28.1.2.2.2.2 zd vz :: aI cI zs 28 u_28.2.2 :: aI cI zv 168 u_23 :: aI cI zt 60 gt :: X) := hD
    refine lv_iload_n hx hb dX9_run_37 rfl (lv_at hl 0 rfl) ?_
    have c_38 : ¬ ((1) : Int32) = 0 := by decide
    refine lv_if_eq (tgt := 48) hx hb dX9_run_38 (by decide) (fun q => absurd q c_38) (fun _ => ?_)
    refine lv_aload_n hx hb dX9_run_41 rfl (lv_at hl 1 rfl) ?_
    refine va_get (D := D) (ci := 9) (v := .int u_28.1.2.2.2.2) (C := RX9) (T := TX9) (N := 26) hx hb hts hiX9 hown hK hP 0 rfl rfl 23 (by decide) (hts (.fieldLink RX9 174 "LedgeLeapsModel" "done" "I") (List.mem_of_getElem? (i := 2) rfl)) (fun _ h9 => h9) rfl dX9_run_42 ?_
    refine lv_goto (tgt := 49) hx hb dX9_run_45 (by decide) ?_
    exact W.iret (v := u_28.1.2.2.2.2) hx hb hr (fun t9 ht9 hW9 => ⟨⟨u_28.1.2.2.2.2, (0, 0, pushN hn, u_28.2.2, u_23, (u_28.1.1, u_28.1.2.1, u_28.1.2.2.1, (nI u_28.1.2.2.2.1), u_28.1.2.2.2.2), (u_28.2.1.1, u_28.2.1.2.1, u_28.2.1.2.2.1, u_28.2.1.2.2.2.1, u_28.2.1.2.2.2.2)), rfl, Or.inr ⟨h8, rfl, rfl, rfl, hq_28.2.1, hq_28.2.2, hq_23⟩, by rw [ht9]; exact hP, hD⟩, hS.F ht9⟩) hS.2.2 dX9_run_49
def SlM (slot : Nat → KS) (tk : Nat → Bool) (gl gk : Nat → Int32) : Prop := ∀ i, i < 2 → gk i = bI (tk i) ∧ (tk i = true → AbsM (slot i) (fun k => gl (28 * i + k)))
theorem SlM.keep {slot : Nat → KS} {tk : Nat → Bool} {gl gk gl' : Nat → Int32} {S : KS} {gs : Nat → Int32} (h : SlM slot tk gl gk) (hS : AbsM S gs) {s : Nat} (hs : s < 2) (h1 : ∀ k, k < 28 → gl' (28 * s + k) = gs k) (h2 : ∀ j, (j < 28 * s ∨ 28 * s + 28 ≤ j) → gl' j = gl j) :
    SlM (fun i => if i = s then S else slot i) (fun i => if i = s then true else tk i) gl' (upd gk s 1) := by
  intro i hi
  by_cases q : i = s
  · subst q
    refine ⟨by show upd gk i 1 i = bI (if i = i then true else tk i); rw [pk_us, if_pos rfl]; rfl, fun _ => ?_⟩
    show AbsM (if i = i then S else slot i) _
    rw [if_pos rfl]
    exact hS.cong h1
  · refine ⟨by show upd gk s 1 i = bI (if i = s then true else tk i); rw [pk_un q, if_neg q]; exact (h i hi).1, fun z => ?_⟩
    show AbsM (if i = s then S else slot i) _
    rw [if_neg q]
    have z : (if i = s then true else tk i) = true := z
    rw [if_neg q] at z
    refine ((h i hi).2 z).cong fun j hj => ?_
    exact h2 _ (by omega)
theorem HistM.pop {hist : Nat → KS} {n : Nat} {gv : Nat → Int32} (h : HistM hist n gv) : HistM hist (n - 1) gv := ⟨by have := h.1; omega, fun i hi => h.2 i (by omega)⟩
set_option maxHeartbeats 4000000 in
set_option maxRecDepth 100000 in
theorem n_keep (l : Launch) (D : va_G) (cI cZ cW cJ : ClassId) (A : Nat → Prop) (X : va_W) (mo zs zv zl zk zt zg zi zw zo ze zd : Nat) (vn vl vh vg vc vr vt vo vp va vb vd vq : Int32) (vm : Bool) (vz : Int64) (gs gl gk : Nat → Int32) (S : KS) (slot : Nat → KS) (tk : Nat → Bool) (xs : Int32) (hS0 : AbsM S gs) (hSl : SlM slot tk gl gk) : Met l yX9_keep wsX9_keep ({ frames := 2, cells := 0, slots := 0, locals := 42 }) (va_Pc [.ref mo, .int xs] (wd D (tyL cI cZ cW cJ) A (oX9 mo zs zv vn zl zk zt vl vh zg zi zw vg zo ze vc vr vt vo (bI vm) vp va vb vd vq zd vz :: aI cI zs 28 gs :: aI cI zl 56 gl :: aZ cZ zk 2 gk :: X))) (va_Qi (fun (r : Int32) (u : Int32 × (Nat → Int32) × (Nat → Int32)) => (isSlotX xs = false ∧ u = (1, gl, gk)) ∨ (isSlotX xs = true ∧ u.1 = 0 ∧ r = nI (blkN S.1) ∧ SlM (fun i => if i = xs.toNatClampNeg then S else slot i) (fun i => if i = xs.toNatClampNeg then true else tk i) u.2.1 u.2.2)) (fun (u : Int32 × (Nat → Int32) × (Nat → Int32)) t => wq D A (oX9 mo zs zv vn zl zk zt vl u.1 zg zi zw vg zo ze vc vr vt vo (bI vm) vp va vb vd vq zd vz :: aI cI zs 28 gs :: aI cI zl 56 u.2.1 :: aZ cZ zk 2 u.2.2 :: X) t) A) 0 0 A := by
  refine Met.ofW (cc := cX9_keep) (maxL := 2) (ret := (some .int)) (by decide) rfl ?_
  intro p e s m args below meth c s₁ B hml hv
  obtain ⟨rfl, hsz9, hP, hK, hD, hN⟩ := hv
  have hx := B.exec
  have hb := B.bytes
  have hr := B.returns
  have hts := atoms_spec (ws := wsX9_keep) B.pre
  have hown : s.vm.findClass RX9 = some m.cls := findClass_of_methodNamed B.named
  have hlocks := B.notSynchronized
  have CF : CallFix p m c cX9_keep 2 s _ wsX9_keep RX9 := ⟨hx, hb, hml, hown, hts⟩
  have hA : ∀ q : Nat, s.heap.size ≤ q → A q := hsz9
  have hS : va_S A s.heap s.heap [] := va_S.rf
  have hiX9 : ∀ w ∈ u_ws RX9 TX9 26, w ∈ wsX9_keep := fun _ h => List.mem_cons_of_mem _ (List.mem_append_right _ (h))
  have hl := lv_entry ([.ref mo, .int xs]) (n := 2) (Nat.le_of_ble_eq_true rfl)
  rw [lg_entry_eq]
  generalize (lg_sl ([.ref mo, .int xs]) ++ List.replicate (2 - (lg_sl ([.ref mo, .int xs])).length) Slot.unset).toArray = ls at hl ⊢
  have hl : lv_has ls 2 [(0, .ref mo), (1, .int xs)] := hl
  show W p l e ({ frames := 2, cells := 0, slots := 0, locals := 42 } : Room) s m (([.ref mo, .int xs] : List Value).toArray) below meth c s.heap [] 0 0 (MQ below (va_Qi (fun (r : Int32) (u : Int32 × (Nat → Int32) × (Nat → Int32)) => (isSlotX xs = false ∧ u = (1, gl, gk)) ∨ (isSlotX xs = true ∧ u.1 = 0 ∧ r = nI (blkN S.1) ∧ SlM (fun i => if i = xs.toNatClampNeg then S else slot i) (fun i => if i = xs.toNatClampNeg then true else tk i) u.2.1 u.2.2)) (fun (u : Int32 × (Nat → Int32) × (Nat → Int32)) t => wq D A (oX9 mo zs zv vn zl zk zt vl u.1 zg zi zw vg zo ze vc vr vt vo (bI vm) vp va vb vd vq zd vz :: aI cI zs 28 gs :: aI cI zl 56 u.2.1 :: aZ cZ zk 2 u.2.2 :: X) t) A) (([.ref mo, .int xs] : List Value).toArray) s 0 0 A) (F0 m 0 ls [])
  refine lv_aload_n hx hb dX9_keep_0 rfl (lv_at hl 0 rfl) ?_
  refine lv_iload_n hx hb dX9_keep_1 rfl (lv_at hl 1 rfl) ?_
  refine cS_i CF hK hN hA hS (cut_of 4 [0, 1, 2, 3] hP hD rfl rfl rfl) (n_isSlot l D cI cZ cW cJ A (oX9 mo zs zv vn zl zk zt vl vh zg zi zw vg zo ze vc vr vt vo (bI vm) vp va vb vd vq zd vz :: aI cI zs 28 gs :: aI cI zl 56 gl :: aZ cZ zk 2 gk :: X) xs) (va_cwS 1 hts gX9_keep_X9_isSlot rfl rfl rfl (by decide +kernel) ⟨Nat.le_of_ble_eq_true rfl, Nat.le_of_ble_eq_true rfl⟩) (As := [.int xs]) (rest := [.ref mo]) rfl hl.1 rfl (Nat.le_of_ble_eq_true rfl) dX9_keep_2 ⟨Nat.le_of_ble_eq_true rfl, Nat.le_of_ble_eq_true rfl⟩ (fun r_2 _ H locs hq hP hD hS => ?_)
  have hq : r_2 = bI (isSlotX xs) := hq
  subst hq
  have hP : va_P D vwCl (oX9 mo zs zv vn zl zk zt vl vh zg zi zw vg zo ze vc vr vt vo (bI vm) vp va vb vd vq zd vz :: aI cI zs 28 gs :: aI cI zl 56 gl :: aZ cZ zk 2 gk :: X) H := pm_P hP 4 [0, 1, 2, 3] rfl
  have hD : va_D A (oX9 mo zs zv vn zl zk zt vl vh zg zi zw vg zo ze vc vr vt vo (bI vm) vp va vb vd vq zd vz :: aI cI zs 28 gs :: aI cI zl 56 gl :: aZ cZ zk 2 gk :: X) := pm_D hD 4 [0, 1, 2, 3] rfl rfl rfl
  refine lv_if_eq (tgt := 12) hx hb dX9_keep_5 (by decide) (fun c_5 => ?_) (fun c_5 => ?_)
  · refine lv_iconst (v := 1) hx hb dX9_keep_12 (by decide) ?_
    refine cV_i CF hK hN hA hS (cut_of 4 [0, 1, 2, 3] hP hD rfl rfl rfl) (n_holds l D cI cZ cW cJ A (aI cI zs 28 gs :: aI cI zl 56 gl :: aZ cZ zk 2 gk :: X) mo zs zv zl zk zt zg zi zw zo ze zd vn vl vh vg vc vr vt vo vp va vb vd vq vm vz 1) (cwV 1 hts gX9_keep_X9_holds rfl rfl rfl (by decide +kernel) ⟨Nat.le_of_ble_eq_true rfl, Nat.le_of_ble_eq_true rfl⟩) (As := [.int 1]) (rest := []) (ci := 9) (q0 := 0) rfl rfl rfl hl.1 rfl (Nat.le_of_ble_eq_true rfl) dX9_keep_13 ⟨Nat.le_of_ble_eq_true rfl, Nat.le_of_ble_eq_true rfl⟩ (fun r_13 _ H locs hq hP hD hS => ?_)
    have hq : r_13 = bI (decide ((1 : Int32) = 0)) := hq
    subst hq
    have hP : va_P D vwCl (oX9 mo zs zv vn zl zk zt vl 1 zg zi zw vg zo ze vc vr vt vo (bI vm) vp va vb vd vq zd vz :: aI cI zs 28 gs :: aI cI zl 56 gl :: aZ cZ zk 2 gk :: X) H := pm_P hP 4 [0, 1, 2, 3] rfl
    have hD : va_D A (oX9 mo zs zv vn zl zk zt vl 1 zg zi zw vg zo ze vc vr vt vo (bI vm) vp va vb vd vq zd vz :: aI cI zs 28 gs :: aI cI zl 56 gl :: aZ cZ zk 2 gk :: X) := pm_D hD 4 [0, 1, 2, 3] rfl rfl rfl
    refine top_i (y := 0) (by decide) ?_
    have c_16 : (0 : Int32) = 0 := by decide
    refine lv_if_ne (tgt := 21) hx hb dX9_keep_16 (by decide) (fun q => absurd c_16 q) (fun _ => ?_)
    refine lv_iconst (v := 0) hx hb dX9_keep_19 (by decide) ?_
    exact W.iret (v := 0) hx hb hr (fun t9 ht9 hW9 => ⟨⟨0, (1, gl, gk), rfl, Or.inl ⟨bf_c c_5, rfl⟩, by rw [ht9]; exact hP, hD⟩, hS.F ht9⟩) hS.2.2 dX9_keep_20
  · refine lv_iconst (v := 0) hx hb dX9_keep_8 (by decide) ?_
    refine lv_goto (tgt := 13) hx hb dX9_keep_9 (by decide) ?_
    refine cV_i CF hK hN hA hS (cut_of 4 [0, 1, 2, 3] hP hD rfl rfl rfl) (n_holds l D cI cZ cW cJ A (aI cI zs 28 gs :: aI cI zl 56 gl :: aZ cZ zk 2 gk :: X) mo zs zv zl zk zt zg zi zw zo ze zd vn vl vh vg vc vr vt vo vp va vb vd vq vm vz 0) (cwV 1 hts gX9_keep_X9_holds rfl rfl rfl (by decide +kernel) ⟨Nat.le_of_ble_eq_true rfl, Nat.le_of_ble_eq_true rfl⟩) (As := [.int 0]) (rest := []) (ci := 9) (q0 := 0) rfl rfl rfl hl.1 rfl (Nat.le_of_ble_eq_true rfl) dX9_keep_13 ⟨Nat.le_of_ble_eq_true rfl, Nat.le_of_ble_eq_true rfl⟩ (fun r_13 _ H locs hq hP hD hS => ?_)
    have hq : r_13 = bI (decide ((0 : Int32) = 0)) := hq
    subst hq
    have hP : va_P D vwCl (oX9 mo zs zv vn zl zk zt vl 0 zg zi zw vg zo ze vc vr vt vo (bI vm) vp va vb vd vq zd vz :: aI cI zs 28 gs :: aI cI zl 56 gl :: aZ cZ zk 2 gk :: X) H := pm_P hP 4 [0, 1, 2, 3] rfl
    have hD : va_D A (oX9 mo zs zv vn zl zk zt vl 0 zg zi zw vg zo ze vc vr vt vo (bI vm) vp va vb vd vq zd vz :: aI cI zs 28 gs :: aI cI zl 56 gl :: aZ cZ zk 2 gk :: X) := pm_D hD 4 [0, 1, 2, 3] rfl rfl rfl
    refine top_i (y := 1) (by decide) ?_
    have c_16 : ¬ (1 : Int32) = 0 := by decide
    refine lv_if_ne (tgt := 21) hx hb dX9_keep_16 (by decide) (fun _ => ?_) (fun q => absurd q c_16)
    obtain ⟨ks, hks, e1⟩ := isSlot_nI (bt_c c_5)
    refine lv_aload_n hx hb dX9_keep_21 rfl (lv_at hl 0 rfl) ?_
    refine va_get (D := D) (ci := 9) (v := .ref zs) (C := RX9) (T := TX9) (N := 26) hx hb hts hiX9 hown hK hP 0 rfl rfl 0 (by decide) (hts (.fieldLink RX9 7 "LedgeLeapsModel" "s" "[I") (List.mem_of_getElem? (i := 1) rfl)) (fun _ h9 => h9) rfl dX9_keep_22 ?_
    refine lv_iconst (v := 0) hx hb dX9_keep_25 (by decide) ?_
    refine lv_aload_n hx hb dX9_keep_26 rfl (lv_at hl 0 rfl) ?_
    refine va_get (D := D) (ci := 9) (v := .ref zl) (C := RX9) (T := TX9) (N := 26) hx hb hts hiX9 hown hK hP 0 rfl rfl 3 (by decide) (hts (.fieldLink RX9 16 "LedgeLeapsModel" "slots" "[I") (List.mem_of_getElem? (i := 2) rfl)) (fun _ h9 => h9) rfl dX9_keep_27 ?_
    refine lv_bipush (v := 28) hx hb dX9_keep_30 (by decide) ?_
    refine lv_iload_n hx hb dX9_keep_32 rfl (lv_at hl 1 rfl) ?_
    refine top_i (y := (nI ks)) e1 ?_
    refine lv_imul hx hb dX9_keep_33 ?_
    refine top_i (y := (nI (28 * ks))) (pk_mul 28 ks) ?_
    refine cS_v CF hK hN hA hS (cut_of 4 [1, 2, 0, 3] hP hD rfl rfl rfl) (n_copy l D cI cZ cW cJ A (oX9 mo zs zv vn zl zk zt vl 0 zg zi zw vg zo ze vc vr vt vo (bI vm) vp va vb vd vq zd vz :: aZ cZ zk 2 gk :: X) zs zl 28 56 0 (28 * ks) gs gl (by omega) (by omega) (by decide) (by decide)) (va_cwS 4 hts gX9_keep_X9_copy rfl rfl rfl (by decide +kernel) ⟨Nat.le_of_ble_eq_true rfl, Nat.le_of_ble_eq_true rfl⟩) (As := [.ref zs, .int 0, .ref zl, .int (nI (28 * ks))]) (rest := []) rfl hl.1 rfl (Nat.le_of_ble_eq_true rfl) dX9_keep_34 ⟨Nat.le_of_ble_eq_true rfl, Nat.le_of_ble_eq_true rfl⟩ (fun u_34 H locs hq hP hD hS => ?_)
    have hq_34 : (∀ k, k < 28 → u_34 ((28 * ks) + k) = gs (0 + k)) ∧ ∀ j, (j < (28 * ks) ∨ (28 * ks) + 28 ≤ j) → u_34 j = gl j := hq
    have hP : va_P D vwCl (oX9 mo zs zv vn zl zk zt vl 0 zg zi zw vg zo ze vc vr vt vo (bI vm) vp va vb vd vq zd vz :: aI cI zs 28 gs :: aI cI zl 56 u_34 :: aZ cZ zk 2 gk :: X) H := pm_P hP 4 [2, 0, 1, 3] rfl
    have hD : va_D A (oX9 mo zs zv vn zl zk zt vl 0 zg zi zw vg zo ze vc vr vt vo (bI vm) vp va vb vd vq zd vz :: aI cI zs 28 gs :: aI cI zl 56 u_34 :: aZ cZ zk 2 gk :: X) := pm_D hD 4 [2, 0, 1, 3] rfl rfl rfl
    refine lv_aload_n hx hb dX9_keep_37 rfl (lv_at hl 0 rfl) ?_
    refine va_get (D := D) (ci := 9) (v := .ref zk) (C := RX9) (T := TX9) (N := 26) hx hb hts hiX9 hown hK hP 0 rfl rfl 4 (by decide) (hts (.fieldLink RX9 19 "LedgeLeapsModel" "isKept" "[Z") (List.mem_of_getElem? (i := 3) rfl)) (fun _ h9 => h9) rfl dX9_keep_38 ?_
    refine lv_iload_n hx hb dX9_keep_41 rfl (lv_at hl 1 rfl) ?_
    refine top_i (y := (nI ks)) e1 ?_
    refine lv_iconst (v := 1) hx hb dX9_keep_42 (by decide) ?_
    refine va_zast hx hb hK hP hD hS 3 1 rfl rfl (vp_ix (e := ks) (rfl) (hks) (by decide)) dX9_keep_43 (fun H locs hP hD hS => ?_)
    rw [cl_ix (x := (nI ks)) (e := ks) (n := 2) (rfl) (hks) (by decide)] at hP hD
    have hP : va_P D vwCl (oX9 mo zs zv vn zl zk zt vl 0 zg zi zw vg zo ze vc vr vt vo (bI vm) vp va vb vd vq zd vz :: aI cI zs 28 gs :: aI cI zl 56 u_34 :: aZ cZ zk 2 (upd gk ks 1) :: X) H := hP
    have hD : va_D A (oX9 mo zs zv vn zl zk zt vl 0 zg zi zw vg zo ze vc vr vt vo (bI vm) vp va vb vd vq zd vz :: aI cI zs 28 gs :: aI cI zl 56 u_34 :: aZ cZ zk 2 (upd gk ks 1) :: X) := hD
    refine lv_aload_n hx hb dX9_keep_44 rfl (lv_at hl 0 rfl) ?_
    refine cV_i CF hK hN hA hS (cut_of 4 [0, 1, 2, 3] hP hD rfl rfl rfl) (n_blocks l D cI cZ cW cJ A (aI cI zl 56 u_34 :: aZ cZ zk 2 (upd gk ks 1) :: X) mo zs zv zl zk zt zg zi zw zo ze zd vn vl 0 vg vc vr vt vo vp va vb vd vq vm vz gs S hS0) (cwV 0 hts gX9_keep_X9_blocks rfl rfl rfl (by decide +kernel) ⟨Nat.le_of_ble_eq_true rfl, Nat.le_of_ble_eq_true rfl⟩) (As := []) (rest := []) (ci := 9) (q0 := 0) rfl rfl rfl hl.1 rfl (Nat.le_of_ble_eq_true rfl) dX9_keep_45 ⟨Nat.le_of_ble_eq_true rfl, Nat.le_of_ble_eq_true rfl⟩ (fun r_45 _ H locs hq hP hD hS => ?_)
    have hq : r_45 = nI (blkN S.1) := hq
    subst hq
    have hP : va_P D vwCl (oX9 mo zs zv vn zl zk zt vl 0 zg zi zw vg zo ze vc vr vt vo (bI vm) vp va vb vd vq zd vz :: aI cI zs 28 gs :: aI cI zl 56 u_34 :: aZ cZ zk 2 (upd gk ks 1) :: X) H := pm_P hP 4 [0, 1, 2, 3] rfl
    have hD : va_D A (oX9 mo zs zv vn zl zk zt vl 0 zg zi zw vg zo ze vc vr vt vo (bI vm) vp va vb vd vq zd vz :: aI cI zs 28 gs :: aI cI zl 56 u_34 :: aZ cZ zk 2 (upd gk ks 1) :: X) := pm_D hD 4 [0, 1, 2, 3] rfl rfl rfl
    exact W.iret (v := (nI (blkN S.1))) hx hb hr (fun t9 ht9 hW9 => ⟨⟨(nI (blkN S.1)), (0, u_34, upd gk ks 1), rfl, Or.inr ⟨bt_c c_5, rfl, rfl, by rw [e1, nI_clamp (by omega)]; exact hSl.keep hS0 hks (fun k hk => (hq_34.1 k hk).trans (by rw [Nat.zero_add])) hq_34.2⟩, by rw [ht9]; exact hP, hD⟩, hS.F ht9⟩) hS.2.2 dX9_keep_48
set_option maxHeartbeats 4000000 in
set_option maxRecDepth 100000 in
theorem n_goBack (l : Launch) (D : va_G) (cI cZ cW cJ : ClassId) (A : Nat → Prop) (X : va_W) (mo zs zv zl zk zt zg zi zw zo ze zd : Nat) (vl vh vg vc vr vt vo vp va vb vd vq : Int32) (vm : Bool) (vz : Int64) (hn : Nat) (gs gv gl gk : Nat → Int32) (S : KS) (hist : Nat → KS) (slot : Nat → KS) (tk : Nat → Bool) (xs : Int32) (hS0 : AbsM S gs) (hH : HistM hist hn gv) (hSl : SlM slot tk gl gk) : Met l yX9_goBack wsX9_goBack ({ frames := 2, cells := 0, slots := 0, locals := 45 }) (va_Pc [.ref mo, .int xs] (wd D (tyL cI cZ cW cJ) A (oX9 mo zs zv (nI hn) zl zk zt vl vh zg zi zw vg zo ze vc vr vt vo (bI vm) vp va vb vd vq zd vz :: aI cI zs 28 gs :: aI cI zv 168 gv :: aI cI zl 56 gl :: aZ cZ zk 2 gk :: X))) (va_Qi (fun (r : Int32) (u : Int32 × Nat × (Nat → Int32) × (Nat → Int32)) => (isSlotX xs = false ∧ u = (1, hn, gs, gv)) ∨ (isSlotX xs = true ∧ tk xs.toNatClampNeg = false ∧ u = (2, hn, gs, gv)) ∨ (isSlotX xs = true ∧ tk xs.toNatClampNeg = true ∧ u.1 = 0 ∧ u.2.1 = pushN hn ∧ r = nI (blkN (slot xs.toNatClampNeg).1) ∧ AbsM (slot xs.toNatClampNeg) u.2.2.1 ∧ HistM (pushH hist hn S) (pushN hn) u.2.2.2)) (fun (u : Int32 × Nat × (Nat → Int32) × (Nat → Int32)) t => wq D A (oX9 mo zs zv (nI u.2.1) zl zk zt vl u.1 zg zi zw vg zo ze vc vr vt vo (bI vm) vp va vb vd vq zd vz :: aI cI zs 28 u.2.2.1 :: aI cI zv 168 u.2.2.2 :: aI cI zl 56 gl :: aZ cZ zk 2 gk :: X) t) A) 0 0 A := by
  refine Met.ofW (cc := cX9_goBack) (maxL := 2) (ret := (some .int)) (by decide) rfl ?_
  intro p e s m args below meth c s₁ B hml hv
  obtain ⟨rfl, hsz9, hP, hK, hD, hN⟩ := hv
  have hx := B.exec
  have hb := B.bytes
  have hr := B.returns
  have hts := atoms_spec (ws := wsX9_goBack) B.pre
  have hown : s.vm.findClass RX9 = some m.cls := findClass_of_methodNamed B.named
  have hlocks := B.notSynchronized
  have CF : CallFix p m c cX9_goBack 2 s _ wsX9_goBack RX9 := ⟨hx, hb, hml, hown, hts⟩
  have hA : ∀ q : Nat, s.heap.size ≤ q → A q := hsz9
  have hS : va_S A s.heap s.heap [] := va_S.rf
  have hiX9 : ∀ w ∈ u_ws RX9 TX9 26, w ∈ wsX9_goBack := fun _ h => List.mem_cons_of_mem _ (List.mem_append_right _ (h))
  have hl := lv_entry ([.ref mo, .int xs]) (n := 2) (Nat.le_of_ble_eq_true rfl)
  rw [lg_entry_eq]
  generalize (lg_sl ([.ref mo, .int xs]) ++ List.replicate (2 - (lg_sl ([.ref mo, .int xs])).length) Slot.unset).toArray = ls at hl ⊢
  have hl : lv_has ls 2 [(0, .ref mo), (1, .int xs)] := hl
  show W p l e ({ frames := 2, cells := 0, slots := 0, locals := 45 } : Room) s m (([.ref mo, .int xs] : List Value).toArray) below meth c s.heap [] 0 0 (MQ below (va_Qi (fun (r : Int32) (u : Int32 × Nat × (Nat → Int32) × (Nat → Int32)) => (isSlotX xs = false ∧ u = (1, hn, gs, gv)) ∨ (isSlotX xs = true ∧ tk xs.toNatClampNeg = false ∧ u = (2, hn, gs, gv)) ∨ (isSlotX xs = true ∧ tk xs.toNatClampNeg = true ∧ u.1 = 0 ∧ u.2.1 = pushN hn ∧ r = nI (blkN (slot xs.toNatClampNeg).1) ∧ AbsM (slot xs.toNatClampNeg) u.2.2.1 ∧ HistM (pushH hist hn S) (pushN hn) u.2.2.2)) (fun (u : Int32 × Nat × (Nat → Int32) × (Nat → Int32)) t => wq D A (oX9 mo zs zv (nI u.2.1) zl zk zt vl u.1 zg zi zw vg zo ze vc vr vt vo (bI vm) vp va vb vd vq zd vz :: aI cI zs 28 u.2.2.1 :: aI cI zv 168 u.2.2.2 :: aI cI zl 56 gl :: aZ cZ zk 2 gk :: X) t) A) (([.ref mo, .int xs] : List Value).toArray) s 0 0 A) (F0 m 0 ls [])
  refine lv_aload_n hx hb dX9_goBack_0 rfl (lv_at hl 0 rfl) ?_
  refine lv_iload_n hx hb dX9_goBack_1 rfl (lv_at hl 1 rfl) ?_
  refine cS_i CF hK hN hA hS (cut_of 5 [0, 1, 2, 3, 4] hP hD rfl rfl rfl) (n_isSlot l D cI cZ cW cJ A (oX9 mo zs zv (nI hn) zl zk zt vl vh zg zi zw vg zo ze vc vr vt vo (bI vm) vp va vb vd vq zd vz :: aI cI zs 28 gs :: aI cI zv 168 gv :: aI cI zl 56 gl :: aZ cZ zk 2 gk :: X) xs) (va_cwS 1 hts gX9_goBack_X9_isSlot rfl rfl rfl (by decide +kernel) ⟨Nat.le_of_ble_eq_true rfl, Nat.le_of_ble_eq_true rfl⟩) (As := [.int xs]) (rest := [.ref mo]) rfl hl.1 rfl (Nat.le_of_ble_eq_true rfl) dX9_goBack_2 ⟨Nat.le_of_ble_eq_true rfl, Nat.le_of_ble_eq_true rfl⟩ (fun r_2 _ H locs hq hP hD hS => ?_)
  have hq : r_2 = bI (isSlotX xs) := hq
  subst hq
  have hP : va_P D vwCl (oX9 mo zs zv (nI hn) zl zk zt vl vh zg zi zw vg zo ze vc vr vt vo (bI vm) vp va vb vd vq zd vz :: aI cI zs 28 gs :: aI cI zv 168 gv :: aI cI zl 56 gl :: aZ cZ zk 2 gk :: X) H := pm_P hP 5 [0, 1, 2, 3, 4] rfl
  have hD : va_D A (oX9 mo zs zv (nI hn) zl zk zt vl vh zg zi zw vg zo ze vc vr vt vo (bI vm) vp va vb vd vq zd vz :: aI cI zs 28 gs :: aI cI zv 168 gv :: aI cI zl 56 gl :: aZ cZ zk 2 gk :: X) := pm_D hD 5 [0, 1, 2, 3, 4] rfl rfl rfl
  refine lv_if_ne (tgt := 12) hx hb dX9_goBack_5 (by decide) (fun c_5 => ?_) (fun c_5 => ?_)
  · obtain ⟨ks, hks, e1⟩ := isSlot_nI (bt_c c_5)
    have e2 : xs.toNatClampNeg = ks := by rw [e1, nI_clamp (by omega)]
    refine lv_aload_n hx hb dX9_goBack_12 rfl (lv_at hl 0 rfl) ?_
    refine va_get (D := D) (ci := 9) (v := .ref zk) (C := RX9) (T := TX9) (N := 26) hx hb hts hiX9 hown hK hP 0 rfl rfl 4 (by decide) (hts (.fieldLink RX9 19 "LedgeLeapsModel" "isKept" "[Z") (List.mem_of_getElem? (i := 1) rfl)) (fun _ h9 => h9) rfl dX9_goBack_13 ?_
    refine lv_iload_n hx hb dX9_goBack_16 rfl (lv_at hl 1 rfl) ?_
    refine top_i (y := (nI ks)) e1 ?_
    refine va_zald hx hb hK hP 4 1 rfl rfl (vp_ix (e := ks) (rfl) (hks) (by decide)) dX9_goBack_17 ?_
    refine top_i (y := (gk ks)) (ld_ix (f := gk) (x := (nI ks)) (e := ks) (n := 2) (rfl) (hks) (by decide)) ?_
    refine top_i (y := (bI (tk ks))) ((hSl ks hks).1) ?_
    refine lv_if_eq (tgt := 25) hx hb dX9_goBack_18 (by decide) (fun c_18 => ?_) (fun c_18 => ?_)
    · refine lv_iconst (v := 2) hx hb dX9_goBack_25 (by decide) ?_
      refine cV_i CF hK hN hA hS (cut_of 5 [0, 1, 2, 3, 4] hP hD rfl rfl rfl) (n_holds l D cI cZ cW cJ A (aI cI zs 28 gs :: aI cI zv 168 gv :: aI cI zl 56 gl :: aZ cZ zk 2 gk :: X) mo zs zv zl zk zt zg zi zw zo ze zd (nI hn) vl vh vg vc vr vt vo vp va vb vd vq vm vz 2) (cwV 1 hts gX9_goBack_X9_holds rfl rfl rfl (by decide +kernel) ⟨Nat.le_of_ble_eq_true rfl, Nat.le_of_ble_eq_true rfl⟩) (As := [.int 2]) (rest := []) (ci := 9) (q0 := 0) rfl rfl rfl hl.1 rfl (Nat.le_of_ble_eq_true rfl) dX9_goBack_26 ⟨Nat.le_of_ble_eq_true rfl, Nat.le_of_ble_eq_true rfl⟩ (fun r_26 _ H locs hq hP hD hS => ?_)
      have hq : r_26 = bI (decide ((2 : Int32) = 0)) := hq
      subst hq
      have hP : va_P D vwCl (oX9 mo zs zv (nI hn) zl zk zt vl 2 zg zi zw vg zo ze vc vr vt vo (bI vm) vp va vb vd vq zd vz :: aI cI zs 28 gs :: aI cI zv 168 gv :: aI cI zl 56 gl :: aZ cZ zk 2 gk :: X) H := pm_P hP 5 [0, 1, 2, 3, 4] rfl
      have hD : va_D A (oX9 mo zs zv (nI hn) zl zk zt vl 2 zg zi zw vg zo ze vc vr vt vo (bI vm) vp va vb vd vq zd vz :: aI cI zs 28 gs :: aI cI zv 168 gv :: aI cI zl 56 gl :: aZ cZ zk 2 gk :: X) := pm_D hD 5 [0, 1, 2, 3, 4] rfl rfl rfl
      refine top_i (y := 0) (by decide) ?_
      have c_29 : (0 : Int32) = 0 := by decide
      refine lv_if_ne (tgt := 34) hx hb dX9_goBack_29 (by decide) (fun q => absurd c_29 q) (fun _ => ?_)
      refine lv_iconst (v := 0) hx hb dX9_goBack_32 (by decide) ?_
      exact W.iret (v := 0) hx hb hr (fun t9 ht9 hW9 => ⟨⟨0, (2, hn, gs, gv), rfl, Or.inr (Or.inl ⟨bt_c c_5, by rw [e2]; exact bf_c c_18, rfl⟩), by rw [ht9]; exact hP, hD⟩, hS.F ht9⟩) hS.2.2 dX9_goBack_33
    · refine lv_iconst (v := 0) hx hb dX9_goBack_21 (by decide) ?_
      refine lv_goto (tgt := 26) hx hb dX9_goBack_22 (by decide) ?_
      refine cV_i CF hK hN hA hS (cut_of 5 [0, 1, 2, 3, 4] hP hD rfl rfl rfl) (n_holds l D cI cZ cW cJ A (aI cI zs 28 gs :: aI cI zv 168 gv :: aI cI zl 56 gl :: aZ cZ zk 2 gk :: X) mo zs zv zl zk zt zg zi zw zo ze zd (nI hn) vl vh vg vc vr vt vo vp va vb vd vq vm vz 0) (cwV 1 hts gX9_goBack_X9_holds rfl rfl rfl (by decide +kernel) ⟨Nat.le_of_ble_eq_true rfl, Nat.le_of_ble_eq_true rfl⟩) (As := [.int 0]) (rest := []) (ci := 9) (q0 := 0) rfl rfl rfl hl.1 rfl (Nat.le_of_ble_eq_true rfl) dX9_goBack_26 ⟨Nat.le_of_ble_eq_true rfl, Nat.le_of_ble_eq_true rfl⟩ (fun r_26 _ H locs hq hP hD hS => ?_)
      have hq : r_26 = bI (decide ((0 : Int32) = 0)) := hq
      subst hq
      have hP : va_P D vwCl (oX9 mo zs zv (nI hn) zl zk zt vl 0 zg zi zw vg zo ze vc vr vt vo (bI vm) vp va vb vd vq zd vz :: aI cI zs 28 gs :: aI cI zv 168 gv :: aI cI zl 56 gl :: aZ cZ zk 2 gk :: X) H := pm_P hP 5 [0, 1, 2, 3, 4] rfl
      have hD : va_D A (oX9 mo zs zv (nI hn) zl zk zt vl 0 zg zi zw vg zo ze vc vr vt vo (bI vm) vp va vb vd vq zd vz :: aI cI zs 28 gs :: aI cI zv 168 gv :: aI cI zl 56 gl :: aZ cZ zk 2 gk :: X) := pm_D hD 5 [0, 1, 2, 3, 4] rfl rfl rfl
      refine top_i (y := 1) (by decide) ?_
      have c_29 : ¬ (1 : Int32) = 0 := by decide
      refine lv_if_ne (tgt := 34) hx hb dX9_goBack_29 (by decide) (fun _ => ?_) (fun q => absurd q c_29)
      refine lv_aload_n hx hb dX9_goBack_34 rfl (lv_at hl 0 rfl) ?_
      refine cV_v CF hK hN hA hS (cut_of 5 [0, 1, 2, 3, 4] hP hD rfl rfl rfl) (n_save l D cI cZ cW cJ A (aI cI zl 56 gl :: aZ cZ zk 2 gk :: X) mo zs zv zl zk zt zg zi zw zo ze zd vl 0 vg vc vr vt vo vp va vb vd vq vm vz hn gs gv S hist hS0 hH) (cwV 0 hts gX9_goBack_X9_save rfl rfl rfl (by decide +kernel) ⟨Nat.le_of_ble_eq_true rfl, Nat.le_of_ble_eq_true rfl⟩) (As := []) (rest := []) (ci := 9) (q0 := 0) rfl rfl rfl hl.1 rfl (Nat.le_of_ble_eq_true rfl) dX9_goBack_35 ⟨Nat.le_of_ble_eq_true rfl, Nat.le_of_ble_eq_true rfl⟩ (fun u_35 H locs hq hP hD hS => ?_)
      have hq_35 : HistM (pushH hist hn S) (pushN hn) u_35 := hq
      have hP : va_P D vwCl (oX9 mo zs zv (nI (pushN hn)) zl zk zt vl 0 zg zi zw vg zo ze vc vr vt vo (bI vm) vp va vb vd vq zd vz :: aI cI zs 28 gs :: aI cI zv 168 u_35 :: aI cI zl 56 gl :: aZ cZ zk 2 gk :: X) H := pm_P hP 5 [0, 1, 2, 3, 4] rfl
      have hD : va_D A (oX9 mo zs zv (nI (pushN hn)) zl zk zt vl 0 zg zi zw vg zo ze vc vr vt vo (bI vm) vp va vb vd vq zd vz :: aI cI zs 28 gs :: aI cI zv 168 u_35 :: aI cI zl 56 gl :: aZ cZ zk 2 gk :: X) := pm_D hD 5 [0, 1, 2, 3, 4] rfl rfl rfl
      refine lv_aload_n hx hb dX9_goBack_38 rfl (lv_at hl 0 rfl) ?_
      refine va_get (D := D) (ci := 9) (v := .ref zl) (C := RX9) (T := TX9) (N := 26) hx hb hts hiX9 hown hK hP 0 rfl rfl 3 (by decide) (hts (.fieldLink RX9 16 "LedgeLeapsModel" "slots" "[I") (List.mem_of_getElem? (i := 2) rfl)) (fun _ h9 => h9) rfl dX9_goBack_39 ?_
      refine lv_bipush (v := 28) hx hb dX9_goBack_42 (by decide) ?_
      refine lv_iload_n hx hb dX9_goBack_44 rfl (lv_at hl 1 rfl) ?_
      refine top_i (y := (nI ks)) e1 ?_
      refine lv_imul hx hb dX9_goBack_45 ?_
      refine top_i (y := (nI (28 * ks))) (pk_mul 28 ks) ?_
      refine lv_aload_n hx hb dX9_goBack_46 rfl (lv_at hl 0 rfl) ?_
      refine va_get (D := D) (ci := 9) (v := .ref zs) (C := RX9) (T := TX9) (N := 26) hx hb hts hiX9 hown hK hP 0 rfl rfl 0 (by decide) (hts (.fieldLink RX9 7 "LedgeLeapsModel" "s" "[I") (List.mem_of_getElem? (i := 3) rfl)) (fun _ h9 => h9) rfl dX9_goBack_47 ?_
      refine lv_iconst (v := 0) hx hb dX9_goBack_50 (by decide) ?_
      refine cS_v CF hK hN hA hS (cut_of 5 [3, 1, 0, 2, 4] hP hD rfl rfl rfl) (n_copy l D cI cZ cW cJ A (oX9 mo zs zv (nI (pushN hn)) zl zk zt vl 0 zg zi zw vg zo ze vc vr vt vo (bI vm) vp va vb vd vq zd vz :: aI cI zv 168 u_35 :: aZ cZ zk 2 gk :: X) zl zs 56 28 (28 * ks) 0 gl gs (by omega) (by omega) (by decide) (by decide)) (va_cwS 4 hts gX9_goBack_X9_copy rfl rfl rfl (by decide +kernel) ⟨Nat.le_of_ble_eq_true rfl, Nat.le_of_ble_eq_true rfl⟩) (As := [.ref zl, .int (nI (28 * ks)), .ref zs, .int 0]) (rest := []) rfl hl.1 rfl (Nat.le_of_ble_eq_true rfl) dX9_goBack_51 ⟨Nat.le_of_ble_eq_true rfl, Nat.le_of_ble_eq_true rfl⟩ (fun u_51 H locs hq hP hD hS => ?_)
      have hq_51 : (∀ k, k < 28 → u_51 (0 + k) = gl ((28 * ks) + k)) ∧ ∀ j, (j < 0 ∨ 0 + 28 ≤ j) → u_51 j = gs j := hq
      have hP : va_P D vwCl (oX9 mo zs zv (nI (pushN hn)) zl zk zt vl 0 zg zi zw vg zo ze vc vr vt vo (bI vm) vp va vb vd vq zd vz :: aI cI zs 28 u_51 :: aI cI zv 168 u_35 :: aI cI zl 56 gl :: aZ cZ zk 2 gk :: X) H := pm_P hP 5 [2, 1, 3, 0, 4] rfl
      have hD : va_D A (oX9 mo zs zv (nI (pushN hn)) zl zk zt vl 0 zg zi zw vg zo ze vc vr vt vo (bI vm) vp va vb vd vq zd vz :: aI cI zs 28 u_51 :: aI cI zv 168 u_35 :: aI cI zl 56 gl :: aZ cZ zk 2 gk :: X) := pm_D hD 5 [2, 1, 3, 0, 4] rfl rfl rfl
      have hA9 : AbsM (slot ks) u_51 := ((hSl ks hks).2 (bt_c c_18)).cong (fun j hj => by have h := hq_51.1 j hj; rw [Nat.zero_add] at h; exact h)
      refine lv_aload_n hx hb dX9_goBack_54 rfl (lv_at hl 0 rfl) ?_
      refine cV_i CF hK hN hA hS (cut_of 5 [0, 1, 2, 3, 4] hP hD rfl rfl rfl) (n_blocks l D cI cZ cW cJ A (aI cI zv 168 u_35 :: aI cI zl 56 gl :: aZ cZ zk 2 gk :: X) mo zs zv zl zk zt zg zi zw zo ze zd (nI (pushN hn)) vl 0 vg vc vr vt vo vp va vb vd vq vm vz u_51 (slot ks) hA9) (cwV 0 hts gX9_goBack_X9_blocks rfl rfl rfl (by decide +kernel) ⟨Nat.le_of_ble_eq_true rfl, Nat.le_of_ble_eq_true rfl⟩) (As := []) (rest := []) (ci := 9) (q0 := 0) rfl rfl rfl hl.1 rfl (Nat.le_of_ble_eq_true rfl) dX9_goBack_55 ⟨Nat.le_of_ble_eq_true rfl, Nat.le_of_ble_eq_true rfl⟩ (fun r_55 _ H locs hq hP hD hS => ?_)
      have hq : r_55 = nI (blkN (slot ks).1) := hq
      subst hq
      have hP : va_P D vwCl (oX9 mo zs zv (nI (pushN hn)) zl zk zt vl 0 zg zi zw vg zo ze vc vr vt vo (bI vm) vp va vb vd vq zd vz :: aI cI zs 28 u_51 :: aI cI zv 168 u_35 :: aI cI zl 56 gl :: aZ cZ zk 2 gk :: X) H := pm_P hP 5 [0, 1, 2, 3, 4] rfl
      have hD : va_D A (oX9 mo zs zv (nI (pushN hn)) zl zk zt vl 0 zg zi zw vg zo ze vc vr vt vo (bI vm) vp va vb vd vq zd vz :: aI cI zs 28 u_51 :: aI cI zv 168 u_35 :: aI cI zl 56 gl :: aZ cZ zk 2 gk :: X) := pm_D hD 5 [0, 1, 2, 3, 4] rfl rfl rfl
      exact W.iret (v := (nI (blkN (slot ks).1))) hx hb hr (fun t9 ht9 hW9 => ⟨⟨(nI (blkN (slot ks).1)), (0, pushN hn, u_51, u_35), rfl, Or.inr (Or.inr ⟨bt_c c_5, by rw [e2]; exact bt_c c_18, rfl, rfl, by rw [e2], by rw [e2]; exact hA9, hq_35⟩), by rw [ht9]; exact hP, hD⟩, hS.F ht9⟩) hS.2.2 dX9_goBack_58
  · refine lv_iconst (v := 1) hx hb dX9_goBack_8 (by decide) ?_
    refine lv_goto (tgt := 26) hx hb dX9_goBack_9 (by decide) ?_
    refine cV_i CF hK hN hA hS (cut_of 5 [0, 1, 2, 3, 4] hP hD rfl rfl rfl) (n_holds l D cI cZ cW cJ A (aI cI zs 28 gs :: aI cI zv 168 gv :: aI cI zl 56 gl :: aZ cZ zk 2 gk :: X) mo zs zv zl zk zt zg zi zw zo ze zd (nI hn) vl vh vg vc vr vt vo vp va vb vd vq vm vz 1) (cwV 1 hts gX9_goBack_X9_holds rfl rfl rfl (by decide +kernel) ⟨Nat.le_of_ble_eq_true rfl, Nat.le_of_ble_eq_true rfl⟩) (As := [.int 1]) (rest := []) (ci := 9) (q0 := 0) rfl rfl rfl hl.1 rfl (Nat.le_of_ble_eq_true rfl) dX9_goBack_26 ⟨Nat.le_of_ble_eq_true rfl, Nat.le_of_ble_eq_true rfl⟩ (fun r_26 _ H locs hq hP hD hS => ?_)
    have hq : r_26 = bI (decide ((1 : Int32) = 0)) := hq
    subst hq
    have hP : va_P D vwCl (oX9 mo zs zv (nI hn) zl zk zt vl 1 zg zi zw vg zo ze vc vr vt vo (bI vm) vp va vb vd vq zd vz :: aI cI zs 28 gs :: aI cI zv 168 gv :: aI cI zl 56 gl :: aZ cZ zk 2 gk :: X) H := pm_P hP 5 [0, 1, 2, 3, 4] rfl
    have hD : va_D A (oX9 mo zs zv (nI hn) zl zk zt vl 1 zg zi zw vg zo ze vc vr vt vo (bI vm) vp va vb vd vq zd vz :: aI cI zs 28 gs :: aI cI zv 168 gv :: aI cI zl 56 gl :: aZ cZ zk 2 gk :: X) := pm_D hD 5 [0, 1, 2, 3, 4] rfl rfl rfl
    refine top_i (y := 0) (by decide) ?_
    have c_29 : (0 : Int32) = 0 := by decide
    refine lv_if_ne (tgt := 34) hx hb dX9_goBack_29 (by decide) (fun q => absurd c_29 q) (fun _ => ?_)
    refine lv_iconst (v := 0) hx hb dX9_goBack_32 (by decide) ?_
    exact W.iret (v := 0) hx hb hr (fun t9 ht9 hW9 => ⟨⟨0, (1, hn, gs, gv), rfl, Or.inl ⟨bf_c c_5, rfl⟩, by rw [ht9]; exact hP, hD⟩, hS.F ht9⟩) hS.2.2 dX9_goBack_33
set_option maxHeartbeats 4000000 in
set_option maxRecDepth 100000 in
theorem n_undo (l : Launch) (D : va_G) (cI cZ cW cJ : ClassId) (A : Nat → Prop) (X : va_W) (mo zs zv zl zk zt zg zi zw zo ze zd : Nat) (vl vh vg vc vr vt vo vp va vb vd vq : Int32) (vm : Bool) (vz : Int64) (hn : Nat) (gs gv : Nat → Int32) (hist : Nat → KS) (hH : HistM hist hn gv) : Met l yX9_undo wsX9_undo ({ frames := 1, cells := 0, slots := 0, locals := 24 }) (va_Pc [.ref mo] (wd D (tyL cI cZ cW cJ) A (oX9 mo zs zv (nI hn) zl zk zt vl vh zg zi zw vg zo ze vc vr vt vo (bI vm) vp va vb vd vq zd vz :: aI cI zs 28 gs :: aI cI zv 168 gv :: X))) (va_Qi (fun (r : Int32) (u : Int32 × Nat × (Nat → Int32)) => (hn = 0 ∧ u = (1, hn, gs)) ∨ (1 ≤ hn ∧ u.1 = 0 ∧ u.2.1 = hn - 1 ∧ r = nI (hn - 1) ∧ AbsM (hist (hn - 1)) u.2.2)) (fun (u : Int32 × Nat × (Nat → Int32)) t => wq D A (oX9 mo zs zv (nI u.2.1) zl zk zt vl u.1 zg zi zw vg zo ze vc vr vt vo (bI vm) vp va vb vd vq zd vz :: aI cI zs 28 u.2.2 :: aI cI zv 168 gv :: X) t) A) 0 0 A := by
  refine Met.ofW (cc := cX9_undo) (maxL := 1) (ret := (some .int)) (by decide) rfl ?_
  intro p e s m args below meth c s₁ B hml hv
  obtain ⟨rfl, hsz9, hP, hK, hD, hN⟩ := hv
  have hx := B.exec
  have hb := B.bytes
  have hr := B.returns
  have hts := atoms_spec (ws := wsX9_undo) B.pre
  have hown : s.vm.findClass RX9 = some m.cls := findClass_of_methodNamed B.named
  have hlocks := B.notSynchronized
  have CF : CallFix p m c cX9_undo 1 s _ wsX9_undo RX9 := ⟨hx, hb, hml, hown, hts⟩
  have hA : ∀ q : Nat, s.heap.size ≤ q → A q := hsz9
  have hS : va_S A s.heap s.heap [] := va_S.rf
  have hiX9 : ∀ w ∈ u_ws RX9 TX9 26, w ∈ wsX9_undo := fun _ h => List.mem_cons_of_mem _ (List.mem_append_right _ (h))
  have hl := lv_entry ([.ref mo]) (n := 1) (Nat.le_of_ble_eq_true rfl)
  rw [lg_entry_eq]
  generalize (lg_sl ([.ref mo]) ++ List.replicate (1 - (lg_sl ([.ref mo])).length) Slot.unset).toArray = ls at hl ⊢
  have hl : lv_has ls 1 [(0, .ref mo)] := hl
  show W p l e ({ frames := 1, cells := 0, slots := 0, locals := 24 } : Room) s m (([.ref mo] : List Value).toArray) below meth c s.heap [] 0 0 (MQ below (va_Qi (fun (r : Int32) (u : Int32 × Nat × (Nat → Int32)) => (hn = 0 ∧ u = (1, hn, gs)) ∨ (1 ≤ hn ∧ u.1 = 0 ∧ u.2.1 = hn - 1 ∧ r = nI (hn - 1) ∧ AbsM (hist (hn - 1)) u.2.2)) (fun (u : Int32 × Nat × (Nat → Int32)) t => wq D A (oX9 mo zs zv (nI u.2.1) zl zk zt vl u.1 zg zi zw vg zo ze vc vr vt vo (bI vm) vp va vb vd vq zd vz :: aI cI zs 28 u.2.2 :: aI cI zv 168 gv :: X) t) A) (([.ref mo] : List Value).toArray) s 0 0 A) (F0 m 0 ls [])
  have hn6 := hH.1
  refine lv_aload_n hx hb dX9_undo_0 rfl (lv_at hl 0 rfl) ?_
  refine lv_aload_n hx hb dX9_undo_1 rfl (lv_at hl 0 rfl) ?_
  refine va_get (D := D) (ci := 9) (v := .int (nI hn)) (C := RX9) (T := TX9) (N := 26) hx hb hts hiX9 hown hK hP 0 rfl rfl 2 (by decide) (hts (.fieldLink RX9 59 "LedgeLeapsModel" "savedMany" "I") (List.mem_of_getElem? (i := 1) rfl)) (fun _ h9 => h9) rfl dX9_undo_2 ?_
  refine lv_if_le (tgt := 12) hx hb dX9_undo_5 (by decide) (fun c_5 => ?_) (fun c_5 => ?_)
  · refine lv_iconst (v := 1) hx hb dX9_undo_12 (by decide) ?_
    refine cV_i CF hK hN hA hS (cut_of 3 [0, 1, 2] hP hD rfl rfl rfl) (n_holds l D cI cZ cW cJ A (aI cI zs 28 gs :: aI cI zv 168 gv :: X) mo zs zv zl zk zt zg zi zw zo ze zd (nI hn) vl vh vg vc vr vt vo vp va vb vd vq vm vz 1) (cwV 1 hts gX9_undo_X9_holds rfl rfl rfl (by decide +kernel) ⟨Nat.le_of_ble_eq_true rfl, Nat.le_of_ble_eq_true rfl⟩) (As := [.int 1]) (rest := []) (ci := 9) (q0 := 0) rfl rfl rfl hl.1 rfl (Nat.le_of_ble_eq_true rfl) dX9_undo_13 ⟨Nat.le_of_ble_eq_true rfl, Nat.le_of_ble_eq_true rfl⟩ (fun r_13 _ H locs hq hP hD hS => ?_)
    have hq : r_13 = bI (decide ((1 : Int32) = 0)) := hq
    subst hq
    have hP : va_P D vwCl (oX9 mo zs zv (nI hn) zl zk zt vl 1 zg zi zw vg zo ze vc vr vt vo (bI vm) vp va vb vd vq zd vz :: aI cI zs 28 gs :: aI cI zv 168 gv :: X) H := pm_P hP 3 [0, 1, 2] rfl
    have hD : va_D A (oX9 mo zs zv (nI hn) zl zk zt vl 1 zg zi zw vg zo ze vc vr vt vo (bI vm) vp va vb vd vq zd vz :: aI cI zs 28 gs :: aI cI zv 168 gv :: X) := pm_D hD 3 [0, 1, 2] rfl rfl rfl
    refine top_i (y := 0) (by decide) ?_
    have c_16 : (0 : Int32) = 0 := by decide
    refine lv_if_ne (tgt := 21) hx hb dX9_undo_16 (by decide) (fun q => absurd c_16 q) (fun _ => ?_)
    refine lv_iconst (v := 0) hx hb dX9_undo_19 (by decide) ?_
    exact W.iret (v := 0) hx hb hr (fun t9 ht9 hW9 => ⟨⟨0, (1, hn, gs), rfl, Or.inl ⟨by have h := (nI_leI (a := hn) (b := 0) (by omega) (by decide)).mp c_5; omega, rfl⟩, by rw [ht9]; exact hP, hD⟩, hS.F ht9⟩) hS.2.2 dX9_undo_20
  · refine lv_iconst (v := 0) hx hb dX9_undo_8 (by decide) ?_
    refine lv_goto (tgt := 13) hx hb dX9_undo_9 (by decide) ?_
    refine cV_i CF hK hN hA hS (cut_of 3 [0, 1, 2] hP hD rfl rfl rfl) (n_holds l D cI cZ cW cJ A (aI cI zs 28 gs :: aI cI zv 168 gv :: X) mo zs zv zl zk zt zg zi zw zo ze zd (nI hn) vl vh vg vc vr vt vo vp va vb vd vq vm vz 0) (cwV 1 hts gX9_undo_X9_holds rfl rfl rfl (by decide +kernel) ⟨Nat.le_of_ble_eq_true rfl, Nat.le_of_ble_eq_true rfl⟩) (As := [.int 0]) (rest := []) (ci := 9) (q0 := 0) rfl rfl rfl hl.1 rfl (Nat.le_of_ble_eq_true rfl) dX9_undo_13 ⟨Nat.le_of_ble_eq_true rfl, Nat.le_of_ble_eq_true rfl⟩ (fun r_13 _ H locs hq hP hD hS => ?_)
    have hq : r_13 = bI (decide ((0 : Int32) = 0)) := hq
    subst hq
    have hP : va_P D vwCl (oX9 mo zs zv (nI hn) zl zk zt vl 0 zg zi zw vg zo ze vc vr vt vo (bI vm) vp va vb vd vq zd vz :: aI cI zs 28 gs :: aI cI zv 168 gv :: X) H := pm_P hP 3 [0, 1, 2] rfl
    have hD : va_D A (oX9 mo zs zv (nI hn) zl zk zt vl 0 zg zi zw vg zo ze vc vr vt vo (bI vm) vp va vb vd vq zd vz :: aI cI zs 28 gs :: aI cI zv 168 gv :: X) := pm_D hD 3 [0, 1, 2] rfl rfl rfl
    refine top_i (y := 1) (by decide) ?_
    have c_16 : ¬ (1 : Int32) = 0 := by decide
    refine lv_if_ne (tgt := 21) hx hb dX9_undo_16 (by decide) (fun _ => ?_) (fun q => absurd q c_16)
    have h1n : 1 ≤ hn := by have h : ¬ hn ≤ 0 := fun q => c_5 ((nI_leI (a := hn) (b := 0) (by omega) (by decide)).mpr q); omega
    refine lv_aload_n hx hb dX9_undo_21 rfl (lv_at hl 0 rfl) ?_
    refine lv_dup hx hb dX9_undo_22 rfl ?_
    refine va_get (D := D) (ci := 9) (v := .int (nI hn)) (C := RX9) (T := TX9) (N := 26) hx hb hts hiX9 hown hK hP 0 rfl rfl 2 (by decide) (hts (.fieldLink RX9 59 "LedgeLeapsModel" "savedMany" "I") (List.mem_of_getElem? (i := 1) rfl)) (fun _ h9 => h9) rfl dX9_undo_23 ?_
    refine lv_iconst (v := 1) hx hb dX9_undo_26 (by decide) ?_
    refine lv_isub hx hb dX9_undo_27 ?_
    refine top_i (y := (nI (hn - 1))) (nI_sub1 h1n) ?_
    refine va_put (D := D) (ci := 9) (v := .int (nI (hn - 1))) (ty := .int) (C := RX9) (T := TX9) (N := 26) hx hb hts hiX9 tyX9 tyX9_ok nmX9 hown hK hP hD hS 0 rfl rfl 2 (by decide) (hts (.fieldLink RX9 59 "LedgeLeapsModel" "savedMany" "I") (List.mem_of_getElem? (i := 1) rfl)) (fun _ h9 => h9) rfl (by decide +kernel) rfl rfl (Nat.le_of_ble_eq_true rfl) dX9_undo_28 (fun H locs hP hD hS => ?_)
    have hP : va_P D vwCl (oX9 mo zs zv (nI (hn - 1)) zl zk zt vl 0 zg zi zw vg zo ze vc vr vt vo (bI vm) vp va vb vd vq zd vz :: aI cI zs 28 gs :: aI cI zv 168 gv :: X) H := hP
    have hD : va_D A (oX9 mo zs zv (nI (hn - 1)) zl zk zt vl 0 zg zi zw vg zo ze vc vr vt vo (bI vm) vp va vb vd vq zd vz :: aI cI zs 28 gs :: aI cI zv 168 gv :: X) := hD
    refine lv_aload_n hx hb dX9_undo_31 rfl (lv_at hl 0 rfl) ?_
    refine va_get (D := D) (ci := 9) (v := .ref zv) (C := RX9) (T := TX9) (N := 26) hx hb hts hiX9 hown hK hP 0 rfl rfl 1 (by decide) (hts (.fieldLink RX9 13 "LedgeLeapsModel" "saved" "[I") (List.mem_of_getElem? (i := 2) rfl)) (fun _ h9 => h9) rfl dX9_undo_32 ?_
    refine lv_bipush (v := 28) hx hb dX9_undo_35 (by decide) ?_
    refine lv_aload_n hx hb dX9_undo_37 rfl (lv_at hl 0 rfl) ?_
    refine va_get (D := D) (ci := 9) (v := .int (nI (hn - 1))) (C := RX9) (T := TX9) (N := 26) hx hb hts hiX9 hown hK hP 0 rfl rfl 2 (by decide) (hts (.fieldLink RX9 59 "LedgeLeapsModel" "savedMany" "I") (List.mem_of_getElem? (i := 1) rfl)) (fun _ h9 => h9) rfl dX9_undo_38 ?_
    refine lv_imul hx hb dX9_undo_41 ?_
    refine top_i (y := (nI (28 * (hn - 1)))) (pk_mul 28 _) ?_
    refine lv_aload_n hx hb dX9_undo_42 rfl (lv_at hl 0 rfl) ?_
    refine va_get (D := D) (ci := 9) (v := .ref zs) (C := RX9) (T := TX9) (N := 26) hx hb hts hiX9 hown hK hP 0 rfl rfl 0 (by decide) (hts (.fieldLink RX9 7 "LedgeLeapsModel" "s" "[I") (List.mem_of_getElem? (i := 3) rfl)) (fun _ h9 => h9) rfl dX9_undo_43 ?_
    refine lv_iconst (v := 0) hx hb dX9_undo_46 (by decide) ?_
    refine cS_v CF hK hN hA hS (cut_of 3 [2, 1, 0] hP hD rfl rfl rfl) (n_copy l D cI cZ cW cJ A (oX9 mo zs zv (nI (hn - 1)) zl zk zt vl 0 zg zi zw vg zo ze vc vr vt vo (bI vm) vp va vb vd vq zd vz :: X) zv zs 168 28 (28 * (hn - 1)) 0 gv gs (by omega) (by omega) (by decide) (by decide)) (va_cwS 4 hts gX9_undo_X9_copy rfl rfl rfl (by decide +kernel) ⟨Nat.le_of_ble_eq_true rfl, Nat.le_of_ble_eq_true rfl⟩) (As := [.ref zv, .int (nI (28 * (hn - 1))), .ref zs, .int 0]) (rest := []) rfl hl.1 rfl (Nat.le_of_ble_eq_true rfl) dX9_undo_47 ⟨Nat.le_of_ble_eq_true rfl, Nat.le_of_ble_eq_true rfl⟩ (fun u_47 H locs hq hP hD hS => ?_)
    have hq_47 : (∀ k, k < 28 → u_47 (0 + k) = gv ((28 * (hn - 1)) + k)) ∧ ∀ j, (j < 0 ∨ 0 + 28 ≤ j) → u_47 j = gs j := hq
    have hP : va_P D vwCl (oX9 mo zs zv (nI (hn - 1)) zl zk zt vl 0 zg zi zw vg zo ze vc vr vt vo (bI vm) vp va vb vd vq zd vz :: aI cI zs 28 u_47 :: aI cI zv 168 gv :: X) H := pm_P hP 3 [2, 1, 0] rfl
    have hD : va_D A (oX9 mo zs zv (nI (hn - 1)) zl zk zt vl 0 zg zi zw vg zo ze vc vr vt vo (bI vm) vp va vb vd vq zd vz :: aI cI zs 28 u_47 :: aI cI zv 168 gv :: X) := pm_D hD 3 [2, 1, 0] rfl rfl rfl
    refine lv_aload_n hx hb dX9_undo_50 rfl (lv_at hl 0 rfl) ?_
    refine va_get (D := D) (ci := 9) (v := .int (nI (hn - 1))) (C := RX9) (T := TX9) (N := 26) hx hb hts hiX9 hown hK hP 0 rfl rfl 2 (by decide) (hts (.fieldLink RX9 59 "LedgeLeapsModel" "savedMany" "I") (List.mem_of_getElem? (i := 1) rfl)) (fun _ h9 => h9) rfl dX9_undo_51 ?_
    exact W.iret (v := (nI (hn - 1))) hx hb hr (fun t9 ht9 hW9 => ⟨⟨(nI (hn - 1)), (0, hn - 1, u_47), rfl, Or.inr ⟨h1n, rfl, rfl, rfl, (hH.2 (hn - 1) (by omega)).cong (fun j hj => by have h := hq_47.1 j hj; rw [Nat.zero_add] at h; exact h)⟩, by rw [ht9]; exact hP, hD⟩, hS.F ht9⟩) hS.2.2 dX9_undo_54
theorem in_led {S : KS} (h : Wf S) (x : Int32) : inX x 0 (nI (nS S) - 1) = hasX (nS S) x := by
  have h1 := (owS_lt h).1
  have h2 : nS S ≤ 100 := nL_le _
  rw [show nI (nS S) - 1 = nI (nS S - 1) from nI_sub1 (by omega), in_nlt x (nS S - 1) (by omega), show nS S - 1 + 1 = nS S by omega]
  rfl
set_option maxHeartbeats 4000000 in
set_option maxRecDepth 100000 in
theorem n_isLedge (l : Launch) (D : va_G) (cI cZ cW cJ : ClassId) (A : Nat → Prop) (X : va_W) (mo zs zv zl zk zt zg zi zw zo ze zd : Nat) (vn vl vh vg vc vr vt vo vp va vb vd vq : Int32) (vm : Bool) (vz : Int64) (gs gg gi gw go : Nat → Int32) (S : KS) (xl : Int32) (hS0 : AbsM S gs) (hWf : Wf S) : Met l yX9_isLedge wsX9_isLedge ({ frames := 7, cells := 0, slots := 0, locals := 163 }) (va_Pc [.ref mo, .int xl] (wd D (tyL cI cZ cW cJ) A (oX9 mo zs zv vn zl zk zt vl vh zg zi zw vg zo ze vc vr vt vo (bI vm) vp va vb vd vq zd vz :: aI cI zs 28 gs :: aI cI zg 200 gg :: aI cI zi 100 gi :: aI cI zw 100 gw :: aI cI zo 10000 go :: X))) (va_Qi (fun (r : Int32) (u : (Nat → Int32) × (Nat → Int32) × (Nat → Int32) × (Nat → Int32) × Int32 × Int32 × Int32 × Int32 × Bool) => r = bI (hasX (nS S) xl) ∧ MapM S u.1 u.2.1 u.2.2.1 ∧ RchM S u.2.2.2.1) (fun (u : (Nat → Int32) × (Nat → Int32) × (Nat → Int32) × (Nat → Int32) × Int32 × Int32 × Int32 × Int32 × Bool) t => wq D A (oX9 mo zs zv vn zl zk zt vl vh zg zi zw (nI (nS S)) zo ze u.2.2.2.2.1 u.2.2.2.2.2.1 u.2.2.2.2.2.2.1 u.2.2.2.2.2.2.2.1 (bI u.2.2.2.2.2.2.2.2) vp va vb vd vq zd vz :: aI cI zs 28 gs :: aI cI zg 200 u.1 :: aI cI zi 100 u.2.1 :: aI cI zw 100 u.2.2.1 :: aI cI zo 10000 u.2.2.2.1 :: X) t) A) 0 0 A := by
  refine Met.ofW (cc := cX9_isLedge) (maxL := 2) (ret := (some .boolean)) (by decide) rfl ?_
  intro p e s m args below meth c s₁ B hml hv
  obtain ⟨rfl, hsz9, hP, hK, hD, hN⟩ := hv
  have hx := B.exec
  have hb := B.bytes
  have hr := B.returns
  have hts := atoms_spec (ws := wsX9_isLedge) B.pre
  have hown : s.vm.findClass RX9 = some m.cls := findClass_of_methodNamed B.named
  have hlocks := B.notSynchronized
  have CF : CallFix p m c cX9_isLedge 2 s _ wsX9_isLedge RX9 := ⟨hx, hb, hml, hown, hts⟩
  have hA : ∀ q : Nat, s.heap.size ≤ q → A q := hsz9
  have hS : va_S A s.heap s.heap [] := va_S.rf
  have hiX9 : ∀ w ∈ u_ws RX9 TX9 26, w ∈ wsX9_isLedge := fun _ h => List.mem_cons_of_mem _ (List.mem_append_right _ (h))
  have hl := lv_entry ([.ref mo, .int xl]) (n := 2) (Nat.le_of_ble_eq_true rfl)
  rw [lg_entry_eq]
  generalize (lg_sl ([.ref mo, .int xl]) ++ List.replicate (2 - (lg_sl ([.ref mo, .int xl])).length) Slot.unset).toArray = ls at hl ⊢
  have hl : lv_has ls 2 [(0, .ref mo), (1, .int xl)] := hl
  show W p l e ({ frames := 7, cells := 0, slots := 0, locals := 163 } : Room) s m (([.ref mo, .int xl] : List Value).toArray) below meth c s.heap [] 0 0 (MQ below (va_Qi (fun (r : Int32) (u : (Nat → Int32) × (Nat → Int32) × (Nat → Int32) × (Nat → Int32) × Int32 × Int32 × Int32 × Int32 × Bool) => r = bI (hasX (nS S) xl) ∧ MapM S u.1 u.2.1 u.2.2.1 ∧ RchM S u.2.2.2.1) (fun (u : (Nat → Int32) × (Nat → Int32) × (Nat → Int32) × (Nat → Int32) × Int32 × Int32 × Int32 × Int32 × Bool) t => wq D A (oX9 mo zs zv vn zl zk zt vl vh zg zi zw (nI (nS S)) zo ze u.2.2.2.2.1 u.2.2.2.2.2.1 u.2.2.2.2.2.2.1 u.2.2.2.2.2.2.2.1 (bI u.2.2.2.2.2.2.2.2) vp va vb vd vq zd vz :: aI cI zs 28 gs :: aI cI zg 200 u.1 :: aI cI zi 100 u.2.1 :: aI cI zw 100 u.2.2.1 :: aI cI zo 10000 u.2.2.2.1 :: X) t) A) (([.ref mo, .int xl] : List Value).toArray) s 0 0 A) (F0 m 0 ls [])
  refine lv_aload_n hx hb dX9_isLedge_0 rfl (lv_at hl 0 rfl) ?_
  refine cV_v CF hK hN hA hS (cut_of 6 [0, 1, 2, 3, 4, 5] hP hD rfl rfl rfl) (n_findReaches l D cI cZ cW cJ A (X) mo zs zv zl zk zt zg zi zw zo ze zd vn vl vh vg vc vr vt vo vp va vb vd vq vm vz gs gg gi gw go S hS0 hWf) (cwV 0 hts gX9_isLedge_X9_findReaches rfl rfl rfl (by decide +kernel) ⟨Nat.le_of_ble_eq_true rfl, Nat.le_of_ble_eq_true rfl⟩) (As := []) (rest := []) (ci := 9) (q0 := 0) rfl rfl rfl hl.1 rfl (Nat.le_of_ble_eq_true rfl) dX9_isLedge_1 ⟨Nat.le_of_ble_eq_true rfl, Nat.le_of_ble_eq_true rfl⟩ (fun u_1 H locs hq hP hD hS => ?_)
  have hq_1 : MapM S u_1.1 u_1.2.1 u_1.2.2.1 ∧ RchM S u_1.2.2.2.1 := hq
  have hP : va_P D vwCl (oX9 mo zs zv vn zl zk zt vl vh zg zi zw (nI (nS S)) zo ze u_1.2.2.2.2.1 u_1.2.2.2.2.2.1 u_1.2.2.2.2.2.2.1 u_1.2.2.2.2.2.2.2.1 (bI u_1.2.2.2.2.2.2.2.2) vp va vb vd vq zd vz :: aI cI zs 28 gs :: aI cI zg 200 u_1.1 :: aI cI zi 100 u_1.2.1 :: aI cI zw 100 u_1.2.2.1 :: aI cI zo 10000 u_1.2.2.2.1 :: X) H := pm_P hP 6 [0, 1, 2, 3, 4, 5] rfl
  have hD : va_D A (oX9 mo zs zv vn zl zk zt vl vh zg zi zw (nI (nS S)) zo ze u_1.2.2.2.2.1 u_1.2.2.2.2.2.1 u_1.2.2.2.2.2.2.1 u_1.2.2.2.2.2.2.2.1 (bI u_1.2.2.2.2.2.2.2.2) vp va vb vd vq zd vz :: aI cI zs 28 gs :: aI cI zg 200 u_1.1 :: aI cI zi 100 u_1.2.1 :: aI cI zw 100 u_1.2.2.1 :: aI cI zo 10000 u_1.2.2.2.1 :: X) := pm_D hD 6 [0, 1, 2, 3, 4, 5] rfl rfl rfl
  refine lv_iload_n hx hb dX9_isLedge_4 rfl (lv_at hl 1 rfl) ?_
  refine lv_iconst (v := 0) hx hb dX9_isLedge_5 (by decide) ?_
  refine lv_aload_n hx hb dX9_isLedge_6 rfl (lv_at hl 0 rfl) ?_
  refine va_get (D := D) (ci := 9) (v := .int (nI (nS S))) (C := RX9) (T := TX9) (N := 26) hx hb hts hiX9 hown hK hP 0 rfl rfl 11 (by decide) (hts (.fieldLink RX9 66 "LedgeLeapsModel" "ledges" "I") (List.mem_of_getElem? (i := 1) rfl)) (fun _ h9 => h9) rfl dX9_isLedge_7 ?_
  refine lv_iconst (v := 1) hx hb dX9_isLedge_10 (by decide) ?_
  refine lv_isub hx hb dX9_isLedge_11 ?_
  refine cS_i CF hK hN hA hS (cut_of 6 [0, 1, 2, 3, 4, 5] hP hD rfl rfl rfl) (n_in l D cI cZ cW cJ A (oX9 mo zs zv vn zl zk zt vl vh zg zi zw (nI (nS S)) zo ze u_1.2.2.2.2.1 u_1.2.2.2.2.2.1 u_1.2.2.2.2.2.2.1 u_1.2.2.2.2.2.2.2.1 (bI u_1.2.2.2.2.2.2.2.2) vp va vb vd vq zd vz :: aI cI zs 28 gs :: aI cI zg 200 u_1.1 :: aI cI zi 100 u_1.2.1 :: aI cI zw 100 u_1.2.2.1 :: aI cI zo 10000 u_1.2.2.2.1 :: X) xl 0 ((nI (nS S)) - 1)) (va_cwS 3 hts gX9_isLedge_X9_in rfl rfl rfl (by decide +kernel) ⟨Nat.le_of_ble_eq_true rfl, Nat.le_of_ble_eq_true rfl⟩) (As := [.int xl, .int 0, .int ((nI (nS S)) - 1)]) (rest := []) rfl hl.1 rfl (Nat.le_of_ble_eq_true rfl) dX9_isLedge_12 ⟨Nat.le_of_ble_eq_true rfl, Nat.le_of_ble_eq_true rfl⟩ (fun r_12 _ H locs hq hP hD hS => ?_)
  have hq : r_12 = bI (inX xl 0 ((nI (nS S)) - 1)) := hq
  subst hq
  have hP : va_P D vwCl (oX9 mo zs zv vn zl zk zt vl vh zg zi zw (nI (nS S)) zo ze u_1.2.2.2.2.1 u_1.2.2.2.2.2.1 u_1.2.2.2.2.2.2.1 u_1.2.2.2.2.2.2.2.1 (bI u_1.2.2.2.2.2.2.2.2) vp va vb vd vq zd vz :: aI cI zs 28 gs :: aI cI zg 200 u_1.1 :: aI cI zi 100 u_1.2.1 :: aI cI zw 100 u_1.2.2.1 :: aI cI zo 10000 u_1.2.2.2.1 :: X) H := pm_P hP 6 [0, 1, 2, 3, 4, 5] rfl
  have hD : va_D A (oX9 mo zs zv vn zl zk zt vl vh zg zi zw (nI (nS S)) zo ze u_1.2.2.2.2.1 u_1.2.2.2.2.2.1 u_1.2.2.2.2.2.2.1 u_1.2.2.2.2.2.2.2.1 (bI u_1.2.2.2.2.2.2.2.2) vp va vb vd vq zd vz :: aI cI zs 28 gs :: aI cI zg 200 u_1.1 :: aI cI zi 100 u_1.2.1 :: aI cI zw 100 u_1.2.2.1 :: aI cI zo 10000 u_1.2.2.2.1 :: X) := pm_D hD 6 [0, 1, 2, 3, 4, 5] rfl rfl rfl
  refine top_i (y := (bI (hasX (nS S) xl))) (by rw [in_led hWf]) ?_
  exact W.zret (v := (bI (hasX (nS S) xl))) (ty := .boolean) hx hb hr (bI_n _) (fun t9 ht9 hW9 => ⟨⟨(bI (hasX (nS S) xl)), u_1, rfl, ⟨rfl, hq_1⟩, by rw [ht9]; exact hP, hD⟩, hS.F ht9⟩) hS.2.2 dX9_isLedge_15
set_option maxHeartbeats 4000000 in
set_option maxRecDepth 100000 in
theorem n_cellOf (l : Launch) (D : va_G) (cI cZ cW cJ : ClassId) (A : Nat → Prop) (X : va_W) (mo zs zv zl zk zt zg zi zw zo ze zd : Nat) (vl vh vg vc vr vt vo vp va vb vd vq : Int32) (vm : Bool) (vz : Int64) (hn : Nat) (gs gg gi gw go ge gd : Nat → Int32) (S : KS) (xc xr xk : Int32) (hS0 : AbsM S gs) (hWf : Wf S) : Met l yX9_cellOf wsX9_cellOf ({ frames := 6, cells := 0, slots := 0, locals := 134 }) (va_Pc [.ref mo, .int xc, .int xr, .int xk] (wd D (tyL cI cZ cW cJ) A (oX9 mo zs zv (nI hn) zl zk zt vl vh zg zi zw vg zo ze vc vr vt vo (bI vm) vp va vb vd vq zd vz :: aI cI zs 28 gs :: aI cI zg 200 gg :: aI cI zi 100 gi :: aI cI zw 100 gw :: aI cI zo 10000 go :: aI cI ze 100 ge :: aZ cZ zd 100 gd :: X))) (va_Qi (fun (r : Int32) (u : Int32 × Int32 × (Nat → Int32) × (Nat → Int32) × (Nat → Int32) × (Nat → Int32) × (Nat → Int32) × (Nat → Int32) × Int32 × Int32 × Int32 × Int32 × Bool) => (isCellX xc xr = false ∧ u.1 = 1) ∨ (isCellX xc xr = true ∧ (xk < 0 ∨ 5 ≤ xk) ∧ u.1 = 2) ∨ (isCellX xc xr = true ∧ ∃ k9 : Nat, k9 < 5 ∧ xk = nI k9 ∧ u.1 = 0 ∧ r = cellS S xc.toNatClampNeg xr.toNatClampNeg k9)) (fun (u : Int32 × Int32 × (Nat → Int32) × (Nat → Int32) × (Nat → Int32) × (Nat → Int32) × (Nat → Int32) × (Nat → Int32) × Int32 × Int32 × Int32 × Int32 × Bool) t => wq D A (oX9 mo zs zv (nI hn) zl zk zt vl u.1 zg zi zw u.2.1 zo ze u.2.2.2.2.2.2.2.2.1 u.2.2.2.2.2.2.2.2.2.1 u.2.2.2.2.2.2.2.2.2.2.1 u.2.2.2.2.2.2.2.2.2.2.2.1 (bI u.2.2.2.2.2.2.2.2.2.2.2.2) vp va vb vd vq zd vz :: aI cI zs 28 gs :: aI cI zg 200 u.2.2.1 :: aI cI zi 100 u.2.2.2.1 :: aI cI zw 100 u.2.2.2.2.1 :: aI cI zo 10000 u.2.2.2.2.2.1 :: aI cI ze 100 u.2.2.2.2.2.2.1 :: aZ cZ zd 100 u.2.2.2.2.2.2.2.1 :: X) t) A) 0 0 A := by
  refine Met.ofW (cc := cX9_cellOf) (maxL := 4) (ret := (some .int)) (by decide) rfl ?_
  intro p e s m args below meth c s₁ B hml hv
  obtain ⟨rfl, hsz9, hP, hK, hD, hN⟩ := hv
  have hx := B.exec
  have hb := B.bytes
  have hr := B.returns
  have hts := atoms_spec (ws := wsX9_cellOf) B.pre
  have hown : s.vm.findClass RX9 = some m.cls := findClass_of_methodNamed B.named
  have hlocks := B.notSynchronized
  have CF : CallFix p m c cX9_cellOf 4 s _ wsX9_cellOf RX9 := ⟨hx, hb, hml, hown, hts⟩
  have hA : ∀ q : Nat, s.heap.size ≤ q → A q := hsz9
  have hS : va_S A s.heap s.heap [] := va_S.rf
  have hl := lv_entry ([.ref mo, .int xc, .int xr, .int xk]) (n := 4) (Nat.le_of_ble_eq_true rfl)
  rw [lg_entry_eq]
  generalize (lg_sl ([.ref mo, .int xc, .int xr, .int xk]) ++ List.replicate (4 - (lg_sl ([.ref mo, .int xc, .int xr, .int xk])).length) Slot.unset).toArray = ls at hl ⊢
  have hl : lv_has ls 4 [(0, .ref mo), (1, .int xc), (2, .int xr), (3, .int xk)] := hl
  show W p l e ({ frames := 6, cells := 0, slots := 0, locals := 134 } : Room) s m (([.ref mo, .int xc, .int xr, .int xk] : List Value).toArray) below meth c s.heap [] 0 0 (MQ below (va_Qi (fun (r : Int32) (u : Int32 × Int32 × (Nat → Int32) × (Nat → Int32) × (Nat → Int32) × (Nat → Int32) × (Nat → Int32) × (Nat → Int32) × Int32 × Int32 × Int32 × Int32 × Bool) => (isCellX xc xr = false ∧ u.1 = 1) ∨ (isCellX xc xr = true ∧ (xk < 0 ∨ 5 ≤ xk) ∧ u.1 = 2) ∨ (isCellX xc xr = true ∧ ∃ k9 : Nat, k9 < 5 ∧ xk = nI k9 ∧ u.1 = 0 ∧ r = cellS S xc.toNatClampNeg xr.toNatClampNeg k9)) (fun (u : Int32 × Int32 × (Nat → Int32) × (Nat → Int32) × (Nat → Int32) × (Nat → Int32) × (Nat → Int32) × (Nat → Int32) × Int32 × Int32 × Int32 × Int32 × Bool) t => wq D A (oX9 mo zs zv (nI hn) zl zk zt vl u.1 zg zi zw u.2.1 zo ze u.2.2.2.2.2.2.2.2.1 u.2.2.2.2.2.2.2.2.2.1 u.2.2.2.2.2.2.2.2.2.2.1 u.2.2.2.2.2.2.2.2.2.2.2.1 (bI u.2.2.2.2.2.2.2.2.2.2.2.2) vp va vb vd vq zd vz :: aI cI zs 28 gs :: aI cI zg 200 u.2.2.1 :: aI cI zi 100 u.2.2.2.1 :: aI cI zw 100 u.2.2.2.2.1 :: aI cI zo 10000 u.2.2.2.2.2.1 :: aI cI ze 100 u.2.2.2.2.2.2.1 :: aZ cZ zd 100 u.2.2.2.2.2.2.2.1 :: X) t) A) (([.ref mo, .int xc, .int xr, .int xk] : List Value).toArray) s 0 0 A) (F0 m 0 ls [])
  refine lv_aload_n hx hb dX9_cellOf_0 rfl (lv_at hl 0 rfl) ?_
  refine lv_iload_n hx hb dX9_cellOf_1 rfl (lv_at hl 1 rfl) ?_
  refine lv_iload_n hx hb dX9_cellOf_2 rfl (lv_at hl 2 rfl) ?_
  refine cS_i CF hK hN hA hS (cut_of 8 [0, 1, 2, 3, 4, 5, 6, 7] hP hD rfl rfl rfl) (n_isCell l D cI cZ cW cJ A (oX9 mo zs zv (nI hn) zl zk zt vl vh zg zi zw vg zo ze vc vr vt vo (bI vm) vp va vb vd vq zd vz :: aI cI zs 28 gs :: aI cI zg 200 gg :: aI cI zi 100 gi :: aI cI zw 100 gw :: aI cI zo 10000 go :: aI cI ze 100 ge :: aZ cZ zd 100 gd :: X) xc xr) (va_cwS 2 hts gX9_cellOf_X9_isCell rfl rfl rfl (by decide +kernel) ⟨Nat.le_of_ble_eq_true rfl, Nat.le_of_ble_eq_true rfl⟩) (As := [.int xc, .int xr]) (rest := [.ref mo]) rfl hl.1 rfl (Nat.le_of_ble_eq_true rfl) dX9_cellOf_3 ⟨Nat.le_of_ble_eq_true rfl, Nat.le_of_ble_eq_true rfl⟩ (fun r_3 _ H locs hq hP hD hS => ?_)
  have hq : r_3 = bI (isCellX xc xr) := hq
  subst hq
  have hP : va_P D vwCl (oX9 mo zs zv (nI hn) zl zk zt vl vh zg zi zw vg zo ze vc vr vt vo (bI vm) vp va vb vd vq zd vz :: aI cI zs 28 gs :: aI cI zg 200 gg :: aI cI zi 100 gi :: aI cI zw 100 gw :: aI cI zo 10000 go :: aI cI ze 100 ge :: aZ cZ zd 100 gd :: X) H := pm_P hP 8 [0, 1, 2, 3, 4, 5, 6, 7] rfl
  have hD : va_D A (oX9 mo zs zv (nI hn) zl zk zt vl vh zg zi zw vg zo ze vc vr vt vo (bI vm) vp va vb vd vq zd vz :: aI cI zs 28 gs :: aI cI zg 200 gg :: aI cI zi 100 gi :: aI cI zw 100 gw :: aI cI zo 10000 go :: aI cI ze 100 ge :: aZ cZ zd 100 gd :: X) := pm_D hD 8 [0, 1, 2, 3, 4, 5, 6, 7] rfl rfl rfl
  refine lv_if_ne (tgt := 13) hx hb dX9_cellOf_6 (by decide) (fun c_6 => ?_) (fun c_6 => ?_)
  · refine lv_iload_n hx hb dX9_cellOf_13 rfl (lv_at hl 3 rfl) ?_
    refine lv_iconst (v := 0) hx hb dX9_cellOf_14 (by decide) ?_
    refine lv_iconst (v := 4) hx hb dX9_cellOf_15 (by decide) ?_
    refine cS_i CF hK hN hA hS (cut_of 8 [0, 1, 2, 3, 4, 5, 6, 7] hP hD rfl rfl rfl) (n_in l D cI cZ cW cJ A (oX9 mo zs zv (nI hn) zl zk zt vl vh zg zi zw vg zo ze vc vr vt vo (bI vm) vp va vb vd vq zd vz :: aI cI zs 28 gs :: aI cI zg 200 gg :: aI cI zi 100 gi :: aI cI zw 100 gw :: aI cI zo 10000 go :: aI cI ze 100 ge :: aZ cZ zd 100 gd :: X) xk 0 4) (va_cwS 3 hts gX9_cellOf_X9_in rfl rfl rfl (by decide +kernel) ⟨Nat.le_of_ble_eq_true rfl, Nat.le_of_ble_eq_true rfl⟩) (As := [.int xk, .int 0, .int 4]) (rest := [.ref mo]) rfl hl.1 rfl (Nat.le_of_ble_eq_true rfl) dX9_cellOf_16 ⟨Nat.le_of_ble_eq_true rfl, Nat.le_of_ble_eq_true rfl⟩ (fun r_16 _ H locs hq hP hD hS => ?_)
    have hq : r_16 = bI (inX xk 0 4) := hq
    subst hq
    have hP : va_P D vwCl (oX9 mo zs zv (nI hn) zl zk zt vl vh zg zi zw vg zo ze vc vr vt vo (bI vm) vp va vb vd vq zd vz :: aI cI zs 28 gs :: aI cI zg 200 gg :: aI cI zi 100 gi :: aI cI zw 100 gw :: aI cI zo 10000 go :: aI cI ze 100 ge :: aZ cZ zd 100 gd :: X) H := pm_P hP 8 [0, 1, 2, 3, 4, 5, 6, 7] rfl
    have hD : va_D A (oX9 mo zs zv (nI hn) zl zk zt vl vh zg zi zw vg zo ze vc vr vt vo (bI vm) vp va vb vd vq zd vz :: aI cI zs 28 gs :: aI cI zg 200 gg :: aI cI zi 100 gi :: aI cI zw 100 gw :: aI cI zo 10000 go :: aI cI ze 100 ge :: aZ cZ zd 100 gd :: X) := pm_D hD 8 [0, 1, 2, 3, 4, 5, 6, 7] rfl rfl rfl
    refine lv_if_ne (tgt := 26) hx hb dX9_cellOf_19 (by decide) (fun c_19 => ?_) (fun c_19 => ?_)
    · refine lv_iconst (v := 0) hx hb dX9_cellOf_26 (by decide) ?_
      refine cV_i CF hK hN hA hS (cut_of 8 [0, 1, 2, 3, 4, 5, 6, 7] hP hD rfl rfl rfl) (n_holds l D cI cZ cW cJ A (aI cI zs 28 gs :: aI cI zg 200 gg :: aI cI zi 100 gi :: aI cI zw 100 gw :: aI cI zo 10000 go :: aI cI ze 100 ge :: aZ cZ zd 100 gd :: X) mo zs zv zl zk zt zg zi zw zo ze zd (nI hn) vl vh vg vc vr vt vo vp va vb vd vq vm vz 0) (cwV 1 hts gX9_cellOf_X9_holds rfl rfl rfl (by decide +kernel) ⟨Nat.le_of_ble_eq_true rfl, Nat.le_of_ble_eq_true rfl⟩) (As := [.int 0]) (rest := []) (ci := 9) (q0 := 0) rfl rfl rfl hl.1 rfl (Nat.le_of_ble_eq_true rfl) dX9_cellOf_27 ⟨Nat.le_of_ble_eq_true rfl, Nat.le_of_ble_eq_true rfl⟩ (fun r_27 _ H locs hq hP hD hS => ?_)
      have hq : r_27 = bI (decide ((0 : Int32) = 0)) := hq
      subst hq
      have hP : va_P D vwCl (oX9 mo zs zv (nI hn) zl zk zt vl 0 zg zi zw vg zo ze vc vr vt vo (bI vm) vp va vb vd vq zd vz :: aI cI zs 28 gs :: aI cI zg 200 gg :: aI cI zi 100 gi :: aI cI zw 100 gw :: aI cI zo 10000 go :: aI cI ze 100 ge :: aZ cZ zd 100 gd :: X) H := pm_P hP 8 [0, 1, 2, 3, 4, 5, 6, 7] rfl
      have hD : va_D A (oX9 mo zs zv (nI hn) zl zk zt vl 0 zg zi zw vg zo ze vc vr vt vo (bI vm) vp va vb vd vq zd vz :: aI cI zs 28 gs :: aI cI zg 200 gg :: aI cI zi 100 gi :: aI cI zw 100 gw :: aI cI zo 10000 go :: aI cI ze 100 ge :: aZ cZ zd 100 gd :: X) := pm_D hD 8 [0, 1, 2, 3, 4, 5, 6, 7] rfl rfl rfl
      refine top_i (y := 1) (by decide) ?_
      have c_30 : ¬ (1 : Int32) = 0 := by decide
      refine lv_if_ne (tgt := 35) hx hb dX9_cellOf_30 (by decide) (fun _ => ?_) (fun q => absurd q c_30)
      obtain ⟨ac, ar, hac, har, e1, e2⟩ := isCell_nI (bt_c c_6)
      obtain ⟨k9, hk9, e3⟩ := in_rng (k := 4) (by decide) (bt_c c_19)
      refine lv_aload_n hx hb dX9_cellOf_35 rfl (lv_at hl 0 rfl) ?_
      refine cV_v CF hK hN hA hS (cut_of 8 [0, 1, 2, 3, 4, 5, 6, 7] hP hD rfl rfl rfl) (n_findLedges l D cI cZ cW cJ A (aI cI zo 10000 go :: aI cI ze 100 ge :: aZ cZ zd 100 gd :: X) mo zs zv zl zk zt zg zi zw zo ze zd (nI hn) vl 0 vc vr vt vo vp va vb vd vq vm vz vg gs gg gi gw S hS0) (cwV 0 hts gX9_cellOf_X9_findLedges rfl rfl rfl (by decide +kernel) ⟨Nat.le_of_ble_eq_true rfl, Nat.le_of_ble_eq_true rfl⟩) (As := []) (rest := []) (ci := 9) (q0 := 0) rfl rfl rfl hl.1 rfl (Nat.le_of_ble_eq_true rfl) dX9_cellOf_36 ⟨Nat.le_of_ble_eq_true rfl, Nat.le_of_ble_eq_true rfl⟩ (fun u_36 H locs hq hP hD hS => ?_)
      have hq_36 : MapM S u_36.1 u_36.2.1 u_36.2.2 := hq
      have hP : va_P D vwCl (oX9 mo zs zv (nI hn) zl zk zt vl 0 zg zi zw (nI (nS S)) zo ze vc vr vt vo (bI vm) vp va vb vd vq zd vz :: aI cI zs 28 gs :: aI cI zg 200 u_36.1 :: aI cI zi 100 u_36.2.1 :: aI cI zw 100 u_36.2.2 :: aI cI zo 10000 go :: aI cI ze 100 ge :: aZ cZ zd 100 gd :: X) H := pm_P hP 8 [0, 1, 2, 3, 4, 5, 6, 7] rfl
      have hD : va_D A (oX9 mo zs zv (nI hn) zl zk zt vl 0 zg zi zw (nI (nS S)) zo ze vc vr vt vo (bI vm) vp va vb vd vq zd vz :: aI cI zs 28 gs :: aI cI zg 200 u_36.1 :: aI cI zi 100 u_36.2.1 :: aI cI zw 100 u_36.2.2 :: aI cI zo 10000 go :: aI cI ze 100 ge :: aZ cZ zd 100 gd :: X) := pm_D hD 8 [0, 1, 2, 3, 4, 5, 6, 7] rfl rfl rfl
      refine lv_aload_n hx hb dX9_cellOf_39 rfl (lv_at hl 0 rfl) ?_
      refine lv_iload_n hx hb dX9_cellOf_40 rfl (lv_at hl 1 rfl) ?_
      refine top_i (y := (nI ac)) e1 ?_
      refine lv_iload_n hx hb dX9_cellOf_41 rfl (lv_at hl 2 rfl) ?_
      refine top_i (y := (nI ar)) e2 ?_
      refine lv_iload_n hx hb dX9_cellOf_42 rfl (lv_at hl 3 rfl) ?_
      refine top_i (y := (nI k9)) e3 ?_
      refine cV_i CF hK hN hA hS (cut_of 8 [0, 1, 2, 3, 4, 5, 6, 7] hP hD rfl rfl rfl) (n_cellTold l D cI cZ cW cJ A (aI cI zi 100 u_36.2.1 :: aI cI zw 100 u_36.2.2 :: aI cI zo 10000 go :: aI cI ze 100 ge :: aZ cZ zd 100 gd :: X) mo zs zv zl zk zt zg zi zw zo ze zd (nI hn) vl 0 (nI (nS S)) vc vr vt vo vp va vb vd vq vm vz gs u_36.1 S ac ar k9 hS0 hq_36.1 hac har hk9) (cwV 3 hts gX9_cellOf_X9_cellTold rfl rfl rfl (by decide +kernel) ⟨Nat.le_of_ble_eq_true rfl, Nat.le_of_ble_eq_true rfl⟩) (As := [.int (nI ac), .int (nI ar), .int (nI k9)]) (rest := []) (ci := 9) (q0 := 0) rfl rfl rfl hl.1 rfl (Nat.le_of_ble_eq_true rfl) dX9_cellOf_43 ⟨Nat.le_of_ble_eq_true rfl, Nat.le_of_ble_eq_true rfl⟩ (fun r_43 _ H locs hq hP hD hS => ?_)
      have hq : r_43 = cellS S ac ar k9 := hq
      subst hq
      have hP : va_P D vwCl (oX9 mo zs zv (nI hn) zl zk zt vl 0 zg zi zw (nI (nS S)) zo ze vc vr vt vo (bI vm) vp va vb vd vq zd vz :: aI cI zs 28 gs :: aI cI zg 200 u_36.1 :: aI cI zi 100 u_36.2.1 :: aI cI zw 100 u_36.2.2 :: aI cI zo 10000 go :: aI cI ze 100 ge :: aZ cZ zd 100 gd :: X) H := pm_P hP 8 [0, 1, 2, 3, 4, 5, 6, 7] rfl
      have hD : va_D A (oX9 mo zs zv (nI hn) zl zk zt vl 0 zg zi zw (nI (nS S)) zo ze vc vr vt vo (bI vm) vp va vb vd vq zd vz :: aI cI zs 28 gs :: aI cI zg 200 u_36.1 :: aI cI zi 100 u_36.2.1 :: aI cI zw 100 u_36.2.2 :: aI cI zo 10000 go :: aI cI ze 100 ge :: aZ cZ zd 100 gd :: X) := pm_D hD 8 [0, 1, 2, 3, 4, 5, 6, 7] rfl rfl rfl
      exact W.iret (v := (cellS S ac ar k9)) hx hb hr (fun t9 ht9 hW9 => ⟨⟨(cellS S ac ar k9), (0, (nI (nS S)), u_36.1, u_36.2.1, u_36.2.2, go, ge, gd, vc, vr, vt, vo, vm), rfl, Or.inr (Or.inr ⟨bt_c c_6, k9, hk9, e3, rfl, by rw [e1, e2, nI_clamp (by omega), nI_clamp (by omega)]⟩), by rw [ht9]; exact hP, hD⟩, hS.F ht9⟩) hS.2.2 dX9_cellOf_46
    · refine lv_iconst (v := 2) hx hb dX9_cellOf_22 (by decide) ?_
      refine lv_goto (tgt := 27) hx hb dX9_cellOf_23 (by decide) ?_
      refine cV_i CF hK hN hA hS (cut_of 8 [0, 1, 2, 3, 4, 5, 6, 7] hP hD rfl rfl rfl) (n_holds l D cI cZ cW cJ A (aI cI zs 28 gs :: aI cI zg 200 gg :: aI cI zi 100 gi :: aI cI zw 100 gw :: aI cI zo 10000 go :: aI cI ze 100 ge :: aZ cZ zd 100 gd :: X) mo zs zv zl zk zt zg zi zw zo ze zd (nI hn) vl vh vg vc vr vt vo vp va vb vd vq vm vz 2) (cwV 1 hts gX9_cellOf_X9_holds rfl rfl rfl (by decide +kernel) ⟨Nat.le_of_ble_eq_true rfl, Nat.le_of_ble_eq_true rfl⟩) (As := [.int 2]) (rest := []) (ci := 9) (q0 := 0) rfl rfl rfl hl.1 rfl (Nat.le_of_ble_eq_true rfl) dX9_cellOf_27 ⟨Nat.le_of_ble_eq_true rfl, Nat.le_of_ble_eq_true rfl⟩ (fun r_27 _ H locs hq hP hD hS => ?_)
      have hq : r_27 = bI (decide ((2 : Int32) = 0)) := hq
      subst hq
      have hP : va_P D vwCl (oX9 mo zs zv (nI hn) zl zk zt vl 2 zg zi zw vg zo ze vc vr vt vo (bI vm) vp va vb vd vq zd vz :: aI cI zs 28 gs :: aI cI zg 200 gg :: aI cI zi 100 gi :: aI cI zw 100 gw :: aI cI zo 10000 go :: aI cI ze 100 ge :: aZ cZ zd 100 gd :: X) H := pm_P hP 8 [0, 1, 2, 3, 4, 5, 6, 7] rfl
      have hD : va_D A (oX9 mo zs zv (nI hn) zl zk zt vl 2 zg zi zw vg zo ze vc vr vt vo (bI vm) vp va vb vd vq zd vz :: aI cI zs 28 gs :: aI cI zg 200 gg :: aI cI zi 100 gi :: aI cI zw 100 gw :: aI cI zo 10000 go :: aI cI ze 100 ge :: aZ cZ zd 100 gd :: X) := pm_D hD 8 [0, 1, 2, 3, 4, 5, 6, 7] rfl rfl rfl
      refine top_i (y := 0) (by decide) ?_
      have c_30 : (0 : Int32) = 0 := by decide
      refine lv_if_ne (tgt := 35) hx hb dX9_cellOf_30 (by decide) (fun q => absurd c_30 q) (fun _ => ?_)
      refine lv_iconst (v := 0) hx hb dX9_cellOf_33 (by decide) ?_
      exact W.iret (v := 0) hx hb hr (fun t9 ht9 hW9 => ⟨⟨0, (2, vg, gg, gi, gw, go, ge, gd, vc, vr, vt, vo, vm), rfl, Or.inr (Or.inl ⟨bt_c c_6, out_rng (k := 4) (by decide) (bf_c c_19), rfl⟩), by rw [ht9]; exact hP, hD⟩, hS.F ht9⟩) hS.2.2 dX9_cellOf_34
  · refine lv_iconst (v := 1) hx hb dX9_cellOf_9 (by decide) ?_
    refine lv_goto (tgt := 27) hx hb dX9_cellOf_10 (by decide) ?_
    refine cV_i CF hK hN hA hS (cut_of 8 [0, 1, 2, 3, 4, 5, 6, 7] hP hD rfl rfl rfl) (n_holds l D cI cZ cW cJ A (aI cI zs 28 gs :: aI cI zg 200 gg :: aI cI zi 100 gi :: aI cI zw 100 gw :: aI cI zo 10000 go :: aI cI ze 100 ge :: aZ cZ zd 100 gd :: X) mo zs zv zl zk zt zg zi zw zo ze zd (nI hn) vl vh vg vc vr vt vo vp va vb vd vq vm vz 1) (cwV 1 hts gX9_cellOf_X9_holds rfl rfl rfl (by decide +kernel) ⟨Nat.le_of_ble_eq_true rfl, Nat.le_of_ble_eq_true rfl⟩) (As := [.int 1]) (rest := []) (ci := 9) (q0 := 0) rfl rfl rfl hl.1 rfl (Nat.le_of_ble_eq_true rfl) dX9_cellOf_27 ⟨Nat.le_of_ble_eq_true rfl, Nat.le_of_ble_eq_true rfl⟩ (fun r_27 _ H locs hq hP hD hS => ?_)
    have hq : r_27 = bI (decide ((1 : Int32) = 0)) := hq
    subst hq
    have hP : va_P D vwCl (oX9 mo zs zv (nI hn) zl zk zt vl 1 zg zi zw vg zo ze vc vr vt vo (bI vm) vp va vb vd vq zd vz :: aI cI zs 28 gs :: aI cI zg 200 gg :: aI cI zi 100 gi :: aI cI zw 100 gw :: aI cI zo 10000 go :: aI cI ze 100 ge :: aZ cZ zd 100 gd :: X) H := pm_P hP 8 [0, 1, 2, 3, 4, 5, 6, 7] rfl
    have hD : va_D A (oX9 mo zs zv (nI hn) zl zk zt vl 1 zg zi zw vg zo ze vc vr vt vo (bI vm) vp va vb vd vq zd vz :: aI cI zs 28 gs :: aI cI zg 200 gg :: aI cI zi 100 gi :: aI cI zw 100 gw :: aI cI zo 10000 go :: aI cI ze 100 ge :: aZ cZ zd 100 gd :: X) := pm_D hD 8 [0, 1, 2, 3, 4, 5, 6, 7] rfl rfl rfl
    refine top_i (y := 0) (by decide) ?_
    have c_30 : (0 : Int32) = 0 := by decide
    refine lv_if_ne (tgt := 35) hx hb dX9_cellOf_30 (by decide) (fun q => absurd c_30 q) (fun _ => ?_)
    refine lv_iconst (v := 0) hx hb dX9_cellOf_33 (by decide) ?_
    exact W.iret (v := 0) hx hb hr (fun t9 ht9 hW9 => ⟨⟨0, (1, vg, gg, gi, gw, go, ge, gd, vc, vr, vt, vo, vm), rfl, Or.inl ⟨bf_c c_6, rfl⟩, by rw [ht9]; exact hP, hD⟩, hS.F ht9⟩) hS.2.2 dX9_cellOf_34
set_option maxHeartbeats 4000000 in
set_option maxRecDepth 100000 in
theorem n_ledgeOf (l : Launch) (D : va_G) (cI cZ cW cJ : ClassId) (A : Nat → Prop) (X : va_W) (mo zs zv zl zk zt zg zi zw zo ze zd : Nat) (vl vh vg vc vr vt vo vp va vb vd vq : Int32) (vm : Bool) (vz : Int64) (hn : Nat) (gs gg gi gw go ge gd : Nat → Int32) (S : KS) (xl xk : Int32) (hS0 : AbsM S gs) (hWf : Wf S) : Met l yX9_ledgeOf wsX9_ledgeOf ({ frames := 8, cells := 0, slots := 0, locals := 184 }) (va_Pc [.ref mo, .int xl, .int xk] (wd D (tyL cI cZ cW cJ) A (oX9 mo zs zv (nI hn) zl zk zt vl vh zg zi zw vg zo ze vc vr vt vo (bI vm) vp va vb vd vq zd vz :: aI cI zs 28 gs :: aI cI zg 200 gg :: aI cI zi 100 gi :: aI cI zw 100 gw :: aI cI zo 10000 go :: aI cI ze 100 ge :: aZ cZ zd 100 gd :: X))) (va_Qi (fun (r : Int32) (u : Int32 × Int32 × (Nat → Int32) × (Nat → Int32) × (Nat → Int32) × (Nat → Int32) × (Nat → Int32) × (Nat → Int32) × Int32 × Int32 × Int32 × Int32 × Bool) => (hasX (nS S) xl = false ∧ u.1 = 1) ∨ (hasX (nS S) xl = true ∧ (xk < 0 ∨ 6 ≤ xk) ∧ u.1 = 2) ∨ (∃ a9 k9 : Nat, a9 < nS S ∧ k9 < 6 ∧ xl = nI a9 ∧ xk = nI k9 ∧ u.1 = 0 ∧ r = ledgeS S a9 k9)) (fun (u : Int32 × Int32 × (Nat → Int32) × (Nat → Int32) × (Nat → Int32) × (Nat → Int32) × (Nat → Int32) × (Nat → Int32) × Int32 × Int32 × Int32 × Int32 × Bool) t => wq D A (oX9 mo zs zv (nI hn) zl zk zt vl u.1 zg zi zw u.2.1 zo ze u.2.2.2.2.2.2.2.2.1 u.2.2.2.2.2.2.2.2.2.1 u.2.2.2.2.2.2.2.2.2.2.1 u.2.2.2.2.2.2.2.2.2.2.2.1 (bI u.2.2.2.2.2.2.2.2.2.2.2.2) vp va vb vd vq zd vz :: aI cI zs 28 gs :: aI cI zg 200 u.2.2.1 :: aI cI zi 100 u.2.2.2.1 :: aI cI zw 100 u.2.2.2.2.1 :: aI cI zo 10000 u.2.2.2.2.2.1 :: aI cI ze 100 u.2.2.2.2.2.2.1 :: aZ cZ zd 100 u.2.2.2.2.2.2.2.1 :: X) t) A) 0 0 A := by
  refine Met.ofW (cc := cX9_ledgeOf) (maxL := 3) (ret := (some .int)) (by decide) rfl ?_
  intro p e s m args below meth c s₁ B hml hv
  obtain ⟨rfl, hsz9, hP, hK, hD, hN⟩ := hv
  have hx := B.exec
  have hb := B.bytes
  have hr := B.returns
  have hts := atoms_spec (ws := wsX9_ledgeOf) B.pre
  have hown : s.vm.findClass RX9 = some m.cls := findClass_of_methodNamed B.named
  have hlocks := B.notSynchronized
  have CF : CallFix p m c cX9_ledgeOf 3 s _ wsX9_ledgeOf RX9 := ⟨hx, hb, hml, hown, hts⟩
  have hA : ∀ q : Nat, s.heap.size ≤ q → A q := hsz9
  have hS : va_S A s.heap s.heap [] := va_S.rf
  have hl := lv_entry ([.ref mo, .int xl, .int xk]) (n := 3) (Nat.le_of_ble_eq_true rfl)
  rw [lg_entry_eq]
  generalize (lg_sl ([.ref mo, .int xl, .int xk]) ++ List.replicate (3 - (lg_sl ([.ref mo, .int xl, .int xk])).length) Slot.unset).toArray = ls at hl ⊢
  have hl : lv_has ls 3 [(0, .ref mo), (1, .int xl), (2, .int xk)] := hl
  show W p l e ({ frames := 8, cells := 0, slots := 0, locals := 184 } : Room) s m (([.ref mo, .int xl, .int xk] : List Value).toArray) below meth c s.heap [] 0 0 (MQ below (va_Qi (fun (r : Int32) (u : Int32 × Int32 × (Nat → Int32) × (Nat → Int32) × (Nat → Int32) × (Nat → Int32) × (Nat → Int32) × (Nat → Int32) × Int32 × Int32 × Int32 × Int32 × Bool) => (hasX (nS S) xl = false ∧ u.1 = 1) ∨ (hasX (nS S) xl = true ∧ (xk < 0 ∨ 6 ≤ xk) ∧ u.1 = 2) ∨ (∃ a9 k9 : Nat, a9 < nS S ∧ k9 < 6 ∧ xl = nI a9 ∧ xk = nI k9 ∧ u.1 = 0 ∧ r = ledgeS S a9 k9)) (fun (u : Int32 × Int32 × (Nat → Int32) × (Nat → Int32) × (Nat → Int32) × (Nat → Int32) × (Nat → Int32) × (Nat → Int32) × Int32 × Int32 × Int32 × Int32 × Bool) t => wq D A (oX9 mo zs zv (nI hn) zl zk zt vl u.1 zg zi zw u.2.1 zo ze u.2.2.2.2.2.2.2.2.1 u.2.2.2.2.2.2.2.2.2.1 u.2.2.2.2.2.2.2.2.2.2.1 u.2.2.2.2.2.2.2.2.2.2.2.1 (bI u.2.2.2.2.2.2.2.2.2.2.2.2) vp va vb vd vq zd vz :: aI cI zs 28 gs :: aI cI zg 200 u.2.2.1 :: aI cI zi 100 u.2.2.2.1 :: aI cI zw 100 u.2.2.2.2.1 :: aI cI zo 10000 u.2.2.2.2.2.1 :: aI cI ze 100 u.2.2.2.2.2.2.1 :: aZ cZ zd 100 u.2.2.2.2.2.2.2.1 :: X) t) A) (([.ref mo, .int xl, .int xk] : List Value).toArray) s 0 0 A) (F0 m 0 ls [])
  refine lv_aload_n hx hb dX9_ledgeOf_0 rfl (lv_at hl 0 rfl) ?_
  refine lv_aload_n hx hb dX9_ledgeOf_1 rfl (lv_at hl 0 rfl) ?_
  refine lv_iload_n hx hb dX9_ledgeOf_2 rfl (lv_at hl 1 rfl) ?_
  refine cV_i CF hK hN hA hS (cut_of 8 [0, 1, 2, 3, 4, 5, 6, 7] hP hD rfl rfl rfl) (n_isLedge l D cI cZ cW cJ A (aI cI ze 100 ge :: aZ cZ zd 100 gd :: X) mo zs zv zl zk zt zg zi zw zo ze zd (nI hn) vl vh vg vc vr vt vo vp va vb vd vq vm vz gs gg gi gw go S xl hS0 hWf) (cwV 1 hts gX9_ledgeOf_X9_isLedge rfl rfl rfl (by decide +kernel) ⟨Nat.le_of_ble_eq_true rfl, Nat.le_of_ble_eq_true rfl⟩) (As := [.int xl]) (rest := [.ref mo]) (ci := 9) (q0 := 0) rfl rfl rfl hl.1 rfl (Nat.le_of_ble_eq_true rfl) dX9_ledgeOf_3 ⟨Nat.le_of_ble_eq_true rfl, Nat.le_of_ble_eq_true rfl⟩ (fun r_3 u_3 H locs hq hP hD hS => ?_)
  have hq_3 : r_3 = bI (hasX (nS S) xl) ∧ MapM S u_3.1 u_3.2.1 u_3.2.2.1 ∧ RchM S u_3.2.2.2.1 := hq
  have hr_3 : r_3 = bI (hasX (nS S) xl) := hq_3.1
  subst hr_3
  have hP : va_P D vwCl (oX9 mo zs zv (nI hn) zl zk zt vl vh zg zi zw (nI (nS S)) zo ze u_3.2.2.2.2.1 u_3.2.2.2.2.2.1 u_3.2.2.2.2.2.2.1 u_3.2.2.2.2.2.2.2.1 (bI u_3.2.2.2.2.2.2.2.2) vp va vb vd vq zd vz :: aI cI zs 28 gs :: aI cI zg 200 u_3.1 :: aI cI zi 100 u_3.2.1 :: aI cI zw 100 u_3.2.2.1 :: aI cI zo 10000 u_3.2.2.2.1 :: aI cI ze 100 ge :: aZ cZ zd 100 gd :: X) H := pm_P hP 8 [0, 1, 2, 3, 4, 5, 6, 7] rfl
  have hD : va_D A (oX9 mo zs zv (nI hn) zl zk zt vl vh zg zi zw (nI (nS S)) zo ze u_3.2.2.2.2.1 u_3.2.2.2.2.2.1 u_3.2.2.2.2.2.2.1 u_3.2.2.2.2.2.2.2.1 (bI u_3.2.2.2.2.2.2.2.2) vp va vb vd vq zd vz :: aI cI zs 28 gs :: aI cI zg 200 u_3.1 :: aI cI zi 100 u_3.2.1 :: aI cI zw 100 u_3.2.2.1 :: aI cI zo 10000 u_3.2.2.2.1 :: aI cI ze 100 ge :: aZ cZ zd 100 gd :: X) := pm_D hD 8 [0, 1, 2, 3, 4, 5, 6, 7] rfl rfl rfl
  have hM : MapM S u_3.1 u_3.2.1 u_3.2.2.1 := hq_3.2.1
  have hR : RchM S u_3.2.2.2.1 := hq_3.2.2
  have hn9 : nS S ≤ 100 := nL_le _
  refine lv_if_ne (tgt := 13) hx hb dX9_ledgeOf_6 (by decide) (fun c_6 => ?_) (fun c_6 => ?_)
  · refine lv_iload_n hx hb dX9_ledgeOf_13 rfl (lv_at hl 2 rfl) ?_
    refine lv_iconst (v := 0) hx hb dX9_ledgeOf_14 (by decide) ?_
    refine lv_iconst (v := 5) hx hb dX9_ledgeOf_15 (by decide) ?_
    refine cS_i CF hK hN hA hS (cut_of 8 [0, 1, 2, 3, 4, 5, 6, 7] hP hD rfl rfl rfl) (n_in l D cI cZ cW cJ A (oX9 mo zs zv (nI hn) zl zk zt vl vh zg zi zw (nI (nS S)) zo ze u_3.2.2.2.2.1 u_3.2.2.2.2.2.1 u_3.2.2.2.2.2.2.1 u_3.2.2.2.2.2.2.2.1 (bI u_3.2.2.2.2.2.2.2.2) vp va vb vd vq zd vz :: aI cI zs 28 gs :: aI cI zg 200 u_3.1 :: aI cI zi 100 u_3.2.1 :: aI cI zw 100 u_3.2.2.1 :: aI cI zo 10000 u_3.2.2.2.1 :: aI cI ze 100 ge :: aZ cZ zd 100 gd :: X) xk 0 5) (va_cwS 3 hts gX9_ledgeOf_X9_in rfl rfl rfl (by decide +kernel) ⟨Nat.le_of_ble_eq_true rfl, Nat.le_of_ble_eq_true rfl⟩) (As := [.int xk, .int 0, .int 5]) (rest := [.ref mo]) rfl hl.1 rfl (Nat.le_of_ble_eq_true rfl) dX9_ledgeOf_16 ⟨Nat.le_of_ble_eq_true rfl, Nat.le_of_ble_eq_true rfl⟩ (fun r_16 _ H locs hq hP hD hS => ?_)
    have hq : r_16 = bI (inX xk 0 5) := hq
    subst hq
    have hP : va_P D vwCl (oX9 mo zs zv (nI hn) zl zk zt vl vh zg zi zw (nI (nS S)) zo ze u_3.2.2.2.2.1 u_3.2.2.2.2.2.1 u_3.2.2.2.2.2.2.1 u_3.2.2.2.2.2.2.2.1 (bI u_3.2.2.2.2.2.2.2.2) vp va vb vd vq zd vz :: aI cI zs 28 gs :: aI cI zg 200 u_3.1 :: aI cI zi 100 u_3.2.1 :: aI cI zw 100 u_3.2.2.1 :: aI cI zo 10000 u_3.2.2.2.1 :: aI cI ze 100 ge :: aZ cZ zd 100 gd :: X) H := pm_P hP 8 [0, 1, 2, 3, 4, 5, 6, 7] rfl
    have hD : va_D A (oX9 mo zs zv (nI hn) zl zk zt vl vh zg zi zw (nI (nS S)) zo ze u_3.2.2.2.2.1 u_3.2.2.2.2.2.1 u_3.2.2.2.2.2.2.1 u_3.2.2.2.2.2.2.2.1 (bI u_3.2.2.2.2.2.2.2.2) vp va vb vd vq zd vz :: aI cI zs 28 gs :: aI cI zg 200 u_3.1 :: aI cI zi 100 u_3.2.1 :: aI cI zw 100 u_3.2.2.1 :: aI cI zo 10000 u_3.2.2.2.1 :: aI cI ze 100 ge :: aZ cZ zd 100 gd :: X) := pm_D hD 8 [0, 1, 2, 3, 4, 5, 6, 7] rfl rfl rfl
    refine lv_if_ne (tgt := 26) hx hb dX9_ledgeOf_19 (by decide) (fun c_19 => ?_) (fun c_19 => ?_)
    · refine lv_iconst (v := 0) hx hb dX9_ledgeOf_26 (by decide) ?_
      refine cV_i CF hK hN hA hS (cut_of 8 [0, 1, 2, 3, 4, 5, 6, 7] hP hD rfl rfl rfl) (n_holds l D cI cZ cW cJ A (aI cI zs 28 gs :: aI cI zg 200 u_3.1 :: aI cI zi 100 u_3.2.1 :: aI cI zw 100 u_3.2.2.1 :: aI cI zo 10000 u_3.2.2.2.1 :: aI cI ze 100 ge :: aZ cZ zd 100 gd :: X) mo zs zv zl zk zt zg zi zw zo ze zd (nI hn) vl vh (nI (nS S)) u_3.2.2.2.2.1 u_3.2.2.2.2.2.1 u_3.2.2.2.2.2.2.1 u_3.2.2.2.2.2.2.2.1 vp va vb vd vq u_3.2.2.2.2.2.2.2.2 vz 0) (cwV 1 hts gX9_ledgeOf_X9_holds rfl rfl rfl (by decide +kernel) ⟨Nat.le_of_ble_eq_true rfl, Nat.le_of_ble_eq_true rfl⟩) (As := [.int 0]) (rest := []) (ci := 9) (q0 := 0) rfl rfl rfl hl.1 rfl (Nat.le_of_ble_eq_true rfl) dX9_ledgeOf_27 ⟨Nat.le_of_ble_eq_true rfl, Nat.le_of_ble_eq_true rfl⟩ (fun r_27 _ H locs hq hP hD hS => ?_)
      have hq : r_27 = bI (decide ((0 : Int32) = 0)) := hq
      subst hq
      have hP : va_P D vwCl (oX9 mo zs zv (nI hn) zl zk zt vl 0 zg zi zw (nI (nS S)) zo ze u_3.2.2.2.2.1 u_3.2.2.2.2.2.1 u_3.2.2.2.2.2.2.1 u_3.2.2.2.2.2.2.2.1 (bI u_3.2.2.2.2.2.2.2.2) vp va vb vd vq zd vz :: aI cI zs 28 gs :: aI cI zg 200 u_3.1 :: aI cI zi 100 u_3.2.1 :: aI cI zw 100 u_3.2.2.1 :: aI cI zo 10000 u_3.2.2.2.1 :: aI cI ze 100 ge :: aZ cZ zd 100 gd :: X) H := pm_P hP 8 [0, 1, 2, 3, 4, 5, 6, 7] rfl
      have hD : va_D A (oX9 mo zs zv (nI hn) zl zk zt vl 0 zg zi zw (nI (nS S)) zo ze u_3.2.2.2.2.1 u_3.2.2.2.2.2.1 u_3.2.2.2.2.2.2.1 u_3.2.2.2.2.2.2.2.1 (bI u_3.2.2.2.2.2.2.2.2) vp va vb vd vq zd vz :: aI cI zs 28 gs :: aI cI zg 200 u_3.1 :: aI cI zi 100 u_3.2.1 :: aI cI zw 100 u_3.2.2.1 :: aI cI zo 10000 u_3.2.2.2.1 :: aI cI ze 100 ge :: aZ cZ zd 100 gd :: X) := pm_D hD 8 [0, 1, 2, 3, 4, 5, 6, 7] rfl rfl rfl
      refine top_i (y := 1) (by decide) ?_
      have c_30 : ¬ (1 : Int32) = 0 := by decide
      refine lv_if_eq (tgt := 42) hx hb dX9_ledgeOf_30 (by decide) (fun q => absurd q c_30) (fun _ => ?_)
      obtain ⟨a9, ha9, e1⟩ := hasX_nI (by omega) (bt_c c_6)
      obtain ⟨k9, hk9, e3⟩ := in_rng (k := 5) (by decide) (bt_c c_19)
      refine lv_aload_n hx hb dX9_ledgeOf_33 rfl (lv_at hl 0 rfl) ?_
      refine lv_iload_n hx hb dX9_ledgeOf_34 rfl (lv_at hl 1 rfl) ?_
      refine top_i (y := (nI a9)) e1 ?_
      refine lv_iload_n hx hb dX9_ledgeOf_35 rfl (lv_at hl 2 rfl) ?_
      refine top_i (y := (nI k9)) e3 ?_
      refine cV_i CF hK hN hA hS (cut_of 8 [0, 2, 3, 4, 5, 1, 6, 7] hP hD rfl rfl rfl) (n_ledgeTold l D cI cZ cW cJ A (aI cI zs 28 gs :: aI cI ze 100 ge :: aZ cZ zd 100 gd :: X) mo zs zv zl zk zt zg zi zw zo ze zd (nI hn) vl 0 u_3.2.2.2.2.1 u_3.2.2.2.2.2.1 u_3.2.2.2.2.2.2.1 u_3.2.2.2.2.2.2.2.1 vp va vb vd vq u_3.2.2.2.2.2.2.2.2 vz u_3.1 u_3.2.1 u_3.2.2.1 u_3.2.2.2.1 S a9 k9 hM hR ha9 hk9) (cwV 2 hts gX9_ledgeOf_X9_ledgeTold rfl rfl rfl (by decide +kernel) ⟨Nat.le_of_ble_eq_true rfl, Nat.le_of_ble_eq_true rfl⟩) (As := [.int (nI a9), .int (nI k9)]) (rest := []) (ci := 9) (q0 := 0) rfl rfl rfl hl.1 rfl (Nat.le_of_ble_eq_true rfl) dX9_ledgeOf_36 ⟨Nat.le_of_ble_eq_true rfl, Nat.le_of_ble_eq_true rfl⟩ (fun r_36 _ H locs hq hP hD hS => ?_)
      have hq : r_36 = ledgeS S a9 k9 := hq
      subst hq
      have hP : va_P D vwCl (oX9 mo zs zv (nI hn) zl zk zt vl 0 zg zi zw (nI (nS S)) zo ze u_3.2.2.2.2.1 u_3.2.2.2.2.2.1 u_3.2.2.2.2.2.2.1 u_3.2.2.2.2.2.2.2.1 (bI u_3.2.2.2.2.2.2.2.2) vp va vb vd vq zd vz :: aI cI zs 28 gs :: aI cI zg 200 u_3.1 :: aI cI zi 100 u_3.2.1 :: aI cI zw 100 u_3.2.2.1 :: aI cI zo 10000 u_3.2.2.2.1 :: aI cI ze 100 ge :: aZ cZ zd 100 gd :: X) H := pm_P hP 8 [0, 5, 1, 2, 3, 4, 6, 7] rfl
      have hD : va_D A (oX9 mo zs zv (nI hn) zl zk zt vl 0 zg zi zw (nI (nS S)) zo ze u_3.2.2.2.2.1 u_3.2.2.2.2.2.1 u_3.2.2.2.2.2.2.1 u_3.2.2.2.2.2.2.2.1 (bI u_3.2.2.2.2.2.2.2.2) vp va vb vd vq zd vz :: aI cI zs 28 gs :: aI cI zg 200 u_3.1 :: aI cI zi 100 u_3.2.1 :: aI cI zw 100 u_3.2.2.1 :: aI cI zo 10000 u_3.2.2.2.1 :: aI cI ze 100 ge :: aZ cZ zd 100 gd :: X) := pm_D hD 8 [0, 5, 1, 2, 3, 4, 6, 7] rfl rfl rfl
      refine lv_goto (tgt := 43) hx hb dX9_ledgeOf_39 (by decide) ?_
      exact W.iret (v := (ledgeS S a9 k9)) hx hb hr (fun t9 ht9 hW9 => ⟨⟨(ledgeS S a9 k9), (0, (nI (nS S)), u_3.1, u_3.2.1, u_3.2.2.1, u_3.2.2.2.1, ge, gd, u_3.2.2.2.2.1, u_3.2.2.2.2.2.1, u_3.2.2.2.2.2.2.1, u_3.2.2.2.2.2.2.2.1, u_3.2.2.2.2.2.2.2.2), rfl, Or.inr (Or.inr ⟨a9, k9, ha9, hk9, e1, e3, rfl, rfl⟩), by rw [ht9]; exact hP, hD⟩, hS.F ht9⟩) hS.2.2 dX9_ledgeOf_43
    · refine lv_iconst (v := 2) hx hb dX9_ledgeOf_22 (by decide) ?_
      refine lv_goto (tgt := 27) hx hb dX9_ledgeOf_23 (by decide) ?_
      refine cV_i CF hK hN hA hS (cut_of 8 [0, 1, 2, 3, 4, 5, 6, 7] hP hD rfl rfl rfl) (n_holds l D cI cZ cW cJ A (aI cI zs 28 gs :: aI cI zg 200 u_3.1 :: aI cI zi 100 u_3.2.1 :: aI cI zw 100 u_3.2.2.1 :: aI cI zo 10000 u_3.2.2.2.1 :: aI cI ze 100 ge :: aZ cZ zd 100 gd :: X) mo zs zv zl zk zt zg zi zw zo ze zd (nI hn) vl vh (nI (nS S)) u_3.2.2.2.2.1 u_3.2.2.2.2.2.1 u_3.2.2.2.2.2.2.1 u_3.2.2.2.2.2.2.2.1 vp va vb vd vq u_3.2.2.2.2.2.2.2.2 vz 2) (cwV 1 hts gX9_ledgeOf_X9_holds rfl rfl rfl (by decide +kernel) ⟨Nat.le_of_ble_eq_true rfl, Nat.le_of_ble_eq_true rfl⟩) (As := [.int 2]) (rest := []) (ci := 9) (q0 := 0) rfl rfl rfl hl.1 rfl (Nat.le_of_ble_eq_true rfl) dX9_ledgeOf_27 ⟨Nat.le_of_ble_eq_true rfl, Nat.le_of_ble_eq_true rfl⟩ (fun r_27 _ H locs hq hP hD hS => ?_)
      have hq : r_27 = bI (decide ((2 : Int32) = 0)) := hq
      subst hq
      have hP : va_P D vwCl (oX9 mo zs zv (nI hn) zl zk zt vl 2 zg zi zw (nI (nS S)) zo ze u_3.2.2.2.2.1 u_3.2.2.2.2.2.1 u_3.2.2.2.2.2.2.1 u_3.2.2.2.2.2.2.2.1 (bI u_3.2.2.2.2.2.2.2.2) vp va vb vd vq zd vz :: aI cI zs 28 gs :: aI cI zg 200 u_3.1 :: aI cI zi 100 u_3.2.1 :: aI cI zw 100 u_3.2.2.1 :: aI cI zo 10000 u_3.2.2.2.1 :: aI cI ze 100 ge :: aZ cZ zd 100 gd :: X) H := pm_P hP 8 [0, 1, 2, 3, 4, 5, 6, 7] rfl
      have hD : va_D A (oX9 mo zs zv (nI hn) zl zk zt vl 2 zg zi zw (nI (nS S)) zo ze u_3.2.2.2.2.1 u_3.2.2.2.2.2.1 u_3.2.2.2.2.2.2.1 u_3.2.2.2.2.2.2.2.1 (bI u_3.2.2.2.2.2.2.2.2) vp va vb vd vq zd vz :: aI cI zs 28 gs :: aI cI zg 200 u_3.1 :: aI cI zi 100 u_3.2.1 :: aI cI zw 100 u_3.2.2.1 :: aI cI zo 10000 u_3.2.2.2.1 :: aI cI ze 100 ge :: aZ cZ zd 100 gd :: X) := pm_D hD 8 [0, 1, 2, 3, 4, 5, 6, 7] rfl rfl rfl
      refine top_i (y := 0) (by decide) ?_
      have c_30 : (0 : Int32) = 0 := by decide
      refine lv_if_eq (tgt := 42) hx hb dX9_ledgeOf_30 (by decide) (fun _ => ?_) (fun q => absurd c_30 q)
      refine lv_iconst (v := 0) hx hb dX9_ledgeOf_42 (by decide) ?_
      exact W.iret (v := 0) hx hb hr (fun t9 ht9 hW9 => ⟨⟨0, (2, (nI (nS S)), u_3.1, u_3.2.1, u_3.2.2.1, u_3.2.2.2.1, ge, gd, u_3.2.2.2.2.1, u_3.2.2.2.2.2.1, u_3.2.2.2.2.2.2.1, u_3.2.2.2.2.2.2.2.1, u_3.2.2.2.2.2.2.2.2), rfl, Or.inr (Or.inl ⟨bt_c c_6, out_rng (k := 5) (by decide) (bf_c c_19), rfl⟩), by rw [ht9]; exact hP, hD⟩, hS.F ht9⟩) hS.2.2 dX9_ledgeOf_43
  · refine lv_iconst (v := 1) hx hb dX9_ledgeOf_9 (by decide) ?_
    refine lv_goto (tgt := 27) hx hb dX9_ledgeOf_10 (by decide) ?_
    refine cV_i CF hK hN hA hS (cut_of 8 [0, 1, 2, 3, 4, 5, 6, 7] hP hD rfl rfl rfl) (n_holds l D cI cZ cW cJ A (aI cI zs 28 gs :: aI cI zg 200 u_3.1 :: aI cI zi 100 u_3.2.1 :: aI cI zw 100 u_3.2.2.1 :: aI cI zo 10000 u_3.2.2.2.1 :: aI cI ze 100 ge :: aZ cZ zd 100 gd :: X) mo zs zv zl zk zt zg zi zw zo ze zd (nI hn) vl vh (nI (nS S)) u_3.2.2.2.2.1 u_3.2.2.2.2.2.1 u_3.2.2.2.2.2.2.1 u_3.2.2.2.2.2.2.2.1 vp va vb vd vq u_3.2.2.2.2.2.2.2.2 vz 1) (cwV 1 hts gX9_ledgeOf_X9_holds rfl rfl rfl (by decide +kernel) ⟨Nat.le_of_ble_eq_true rfl, Nat.le_of_ble_eq_true rfl⟩) (As := [.int 1]) (rest := []) (ci := 9) (q0 := 0) rfl rfl rfl hl.1 rfl (Nat.le_of_ble_eq_true rfl) dX9_ledgeOf_27 ⟨Nat.le_of_ble_eq_true rfl, Nat.le_of_ble_eq_true rfl⟩ (fun r_27 _ H locs hq hP hD hS => ?_)
    have hq : r_27 = bI (decide ((1 : Int32) = 0)) := hq
    subst hq
    have hP : va_P D vwCl (oX9 mo zs zv (nI hn) zl zk zt vl 1 zg zi zw (nI (nS S)) zo ze u_3.2.2.2.2.1 u_3.2.2.2.2.2.1 u_3.2.2.2.2.2.2.1 u_3.2.2.2.2.2.2.2.1 (bI u_3.2.2.2.2.2.2.2.2) vp va vb vd vq zd vz :: aI cI zs 28 gs :: aI cI zg 200 u_3.1 :: aI cI zi 100 u_3.2.1 :: aI cI zw 100 u_3.2.2.1 :: aI cI zo 10000 u_3.2.2.2.1 :: aI cI ze 100 ge :: aZ cZ zd 100 gd :: X) H := pm_P hP 8 [0, 1, 2, 3, 4, 5, 6, 7] rfl
    have hD : va_D A (oX9 mo zs zv (nI hn) zl zk zt vl 1 zg zi zw (nI (nS S)) zo ze u_3.2.2.2.2.1 u_3.2.2.2.2.2.1 u_3.2.2.2.2.2.2.1 u_3.2.2.2.2.2.2.2.1 (bI u_3.2.2.2.2.2.2.2.2) vp va vb vd vq zd vz :: aI cI zs 28 gs :: aI cI zg 200 u_3.1 :: aI cI zi 100 u_3.2.1 :: aI cI zw 100 u_3.2.2.1 :: aI cI zo 10000 u_3.2.2.2.1 :: aI cI ze 100 ge :: aZ cZ zd 100 gd :: X) := pm_D hD 8 [0, 1, 2, 3, 4, 5, 6, 7] rfl rfl rfl
    refine top_i (y := 0) (by decide) ?_
    have c_30 : (0 : Int32) = 0 := by decide
    refine lv_if_eq (tgt := 42) hx hb dX9_ledgeOf_30 (by decide) (fun _ => ?_) (fun q => absurd c_30 q)
    refine lv_iconst (v := 0) hx hb dX9_ledgeOf_42 (by decide) ?_
    exact W.iret (v := 0) hx hb hr (fun t9 ht9 hW9 => ⟨⟨0, (1, (nI (nS S)), u_3.1, u_3.2.1, u_3.2.2.1, u_3.2.2.2.1, ge, gd, u_3.2.2.2.2.1, u_3.2.2.2.2.2.1, u_3.2.2.2.2.2.2.1, u_3.2.2.2.2.2.2.2.1, u_3.2.2.2.2.2.2.2.2), rfl, Or.inl ⟨bf_c c_6, rfl⟩, by rw [ht9]; exact hP, hD⟩, hS.F ht9⟩) hS.2.2 dX9_ledgeOf_43
set_option maxHeartbeats 4000000 in
set_option maxRecDepth 100000 in
theorem n_count (l : Launch) (D : va_G) (cI cZ cW cJ : ClassId) (A : Nat → Prop) (X : va_W) (mo zs zv zl zk zt zg zi zw zo ze zd : Nat) (vl vh vg vc vr vt vo vp va vb vd vq : Int32) (vm : Bool) (vz : Int64) (hn : Nat) (gs gg gi gw go ge gd : Nat → Int32) (S : KS) (xk : Int32) (hS0 : AbsM S gs) (hWf : Wf S) : Met l yX9_count wsX9_count ({ frames := 7, cells := 0, slots := 0, locals := 163 }) (va_Pc [.ref mo, .int xk] (wd D (tyL cI cZ cW cJ) A (oX9 mo zs zv (nI hn) zl zk zt vl vh zg zi zw vg zo ze vc vr vt vo (bI vm) vp va vb vd vq zd vz :: aI cI zs 28 gs :: aI cI zg 200 gg :: aI cI zi 100 gi :: aI cI zw 100 gw :: aI cI zo 10000 go :: aI cI ze 100 ge :: aZ cZ zd 100 gd :: X))) (va_Qi (fun (r : Int32) (u : Int32 × Int32 × (Nat → Int32) × (Nat → Int32) × (Nat → Int32) × (Nat → Int32) × (Nat → Int32) × (Nat → Int32) × Int32 × Int32 × Int32 × Int32 × Bool) => ((xk < 0 ∨ 10 ≤ xk) ∧ u.1 = 1) ∨ (∃ k9 : Nat, k9 < 10 ∧ xk = nI k9 ∧ u.1 = 0 ∧ r = countS S hn k9)) (fun (u : Int32 × Int32 × (Nat → Int32) × (Nat → Int32) × (Nat → Int32) × (Nat → Int32) × (Nat → Int32) × (Nat → Int32) × Int32 × Int32 × Int32 × Int32 × Bool) t => wq D A (oX9 mo zs zv (nI hn) zl zk zt vl u.1 zg zi zw u.2.1 zo ze u.2.2.2.2.2.2.2.2.1 u.2.2.2.2.2.2.2.2.2.1 u.2.2.2.2.2.2.2.2.2.2.1 u.2.2.2.2.2.2.2.2.2.2.2.1 (bI u.2.2.2.2.2.2.2.2.2.2.2.2) vp va vb vd vq zd vz :: aI cI zs 28 gs :: aI cI zg 200 u.2.2.1 :: aI cI zi 100 u.2.2.2.1 :: aI cI zw 100 u.2.2.2.2.1 :: aI cI zo 10000 u.2.2.2.2.2.1 :: aI cI ze 100 u.2.2.2.2.2.2.1 :: aZ cZ zd 100 u.2.2.2.2.2.2.2.1 :: X) t) A) 0 0 A := by
  refine Met.ofW (cc := cX9_count) (maxL := 2) (ret := (some .int)) (by decide) rfl ?_
  intro p e s m args below meth c s₁ B hml hv
  obtain ⟨rfl, hsz9, hP, hK, hD, hN⟩ := hv
  have hx := B.exec
  have hb := B.bytes
  have hr := B.returns
  have hts := atoms_spec (ws := wsX9_count) B.pre
  have hown : s.vm.findClass RX9 = some m.cls := findClass_of_methodNamed B.named
  have hlocks := B.notSynchronized
  have CF : CallFix p m c cX9_count 2 s _ wsX9_count RX9 := ⟨hx, hb, hml, hown, hts⟩
  have hA : ∀ q : Nat, s.heap.size ≤ q → A q := hsz9
  have hS : va_S A s.heap s.heap [] := va_S.rf
  have hl := lv_entry ([.ref mo, .int xk]) (n := 2) (Nat.le_of_ble_eq_true rfl)
  rw [lg_entry_eq]
  generalize (lg_sl ([.ref mo, .int xk]) ++ List.replicate (2 - (lg_sl ([.ref mo, .int xk])).length) Slot.unset).toArray = ls at hl ⊢
  have hl : lv_has ls 2 [(0, .ref mo), (1, .int xk)] := hl
  show W p l e ({ frames := 7, cells := 0, slots := 0, locals := 163 } : Room) s m (([.ref mo, .int xk] : List Value).toArray) below meth c s.heap [] 0 0 (MQ below (va_Qi (fun (r : Int32) (u : Int32 × Int32 × (Nat → Int32) × (Nat → Int32) × (Nat → Int32) × (Nat → Int32) × (Nat → Int32) × (Nat → Int32) × Int32 × Int32 × Int32 × Int32 × Bool) => ((xk < 0 ∨ 10 ≤ xk) ∧ u.1 = 1) ∨ (∃ k9 : Nat, k9 < 10 ∧ xk = nI k9 ∧ u.1 = 0 ∧ r = countS S hn k9)) (fun (u : Int32 × Int32 × (Nat → Int32) × (Nat → Int32) × (Nat → Int32) × (Nat → Int32) × (Nat → Int32) × (Nat → Int32) × Int32 × Int32 × Int32 × Int32 × Bool) t => wq D A (oX9 mo zs zv (nI hn) zl zk zt vl u.1 zg zi zw u.2.1 zo ze u.2.2.2.2.2.2.2.2.1 u.2.2.2.2.2.2.2.2.2.1 u.2.2.2.2.2.2.2.2.2.2.1 u.2.2.2.2.2.2.2.2.2.2.2.1 (bI u.2.2.2.2.2.2.2.2.2.2.2.2) vp va vb vd vq zd vz :: aI cI zs 28 gs :: aI cI zg 200 u.2.2.1 :: aI cI zi 100 u.2.2.2.1 :: aI cI zw 100 u.2.2.2.2.1 :: aI cI zo 10000 u.2.2.2.2.2.1 :: aI cI ze 100 u.2.2.2.2.2.2.1 :: aZ cZ zd 100 u.2.2.2.2.2.2.2.1 :: X) t) A) (([.ref mo, .int xk] : List Value).toArray) s 0 0 A) (F0 m 0 ls [])
  refine lv_aload_n hx hb dX9_count_0 rfl (lv_at hl 0 rfl) ?_
  refine lv_iload_n hx hb dX9_count_1 rfl (lv_at hl 1 rfl) ?_
  refine lv_iconst (v := 0) hx hb dX9_count_2 (by decide) ?_
  refine lv_bipush (v := 9) hx hb dX9_count_3 (by decide) ?_
  refine cS_i CF hK hN hA hS (cut_of 8 [0, 1, 2, 3, 4, 5, 6, 7] hP hD rfl rfl rfl) (n_in l D cI cZ cW cJ A (oX9 mo zs zv (nI hn) zl zk zt vl vh zg zi zw vg zo ze vc vr vt vo (bI vm) vp va vb vd vq zd vz :: aI cI zs 28 gs :: aI cI zg 200 gg :: aI cI zi 100 gi :: aI cI zw 100 gw :: aI cI zo 10000 go :: aI cI ze 100 ge :: aZ cZ zd 100 gd :: X) xk 0 9) (va_cwS 3 hts gX9_count_X9_in rfl rfl rfl (by decide +kernel) ⟨Nat.le_of_ble_eq_true rfl, Nat.le_of_ble_eq_true rfl⟩) (As := [.int xk, .int 0, .int 9]) (rest := [.ref mo]) rfl hl.1 rfl (Nat.le_of_ble_eq_true rfl) dX9_count_5 ⟨Nat.le_of_ble_eq_true rfl, Nat.le_of_ble_eq_true rfl⟩ (fun r_5 _ H locs hq hP hD hS => ?_)
  have hq : r_5 = bI (inX xk 0 9) := hq
  subst hq
  have hP : va_P D vwCl (oX9 mo zs zv (nI hn) zl zk zt vl vh zg zi zw vg zo ze vc vr vt vo (bI vm) vp va vb vd vq zd vz :: aI cI zs 28 gs :: aI cI zg 200 gg :: aI cI zi 100 gi :: aI cI zw 100 gw :: aI cI zo 10000 go :: aI cI ze 100 ge :: aZ cZ zd 100 gd :: X) H := pm_P hP 8 [0, 1, 2, 3, 4, 5, 6, 7] rfl
  have hD : va_D A (oX9 mo zs zv (nI hn) zl zk zt vl vh zg zi zw vg zo ze vc vr vt vo (bI vm) vp va vb vd vq zd vz :: aI cI zs 28 gs :: aI cI zg 200 gg :: aI cI zi 100 gi :: aI cI zw 100 gw :: aI cI zo 10000 go :: aI cI ze 100 ge :: aZ cZ zd 100 gd :: X) := pm_D hD 8 [0, 1, 2, 3, 4, 5, 6, 7] rfl rfl rfl
  refine lv_if_eq (tgt := 15) hx hb dX9_count_8 (by decide) (fun c_8 => ?_) (fun c_8 => ?_)
  · refine lv_iconst (v := 1) hx hb dX9_count_15 (by decide) ?_
    refine cV_i CF hK hN hA hS (cut_of 8 [0, 1, 2, 3, 4, 5, 6, 7] hP hD rfl rfl rfl) (n_holds l D cI cZ cW cJ A (aI cI zs 28 gs :: aI cI zg 200 gg :: aI cI zi 100 gi :: aI cI zw 100 gw :: aI cI zo 10000 go :: aI cI ze 100 ge :: aZ cZ zd 100 gd :: X) mo zs zv zl zk zt zg zi zw zo ze zd (nI hn) vl vh vg vc vr vt vo vp va vb vd vq vm vz 1) (cwV 1 hts gX9_count_X9_holds rfl rfl rfl (by decide +kernel) ⟨Nat.le_of_ble_eq_true rfl, Nat.le_of_ble_eq_true rfl⟩) (As := [.int 1]) (rest := []) (ci := 9) (q0 := 0) rfl rfl rfl hl.1 rfl (Nat.le_of_ble_eq_true rfl) dX9_count_16 ⟨Nat.le_of_ble_eq_true rfl, Nat.le_of_ble_eq_true rfl⟩ (fun r_16 _ H locs hq hP hD hS => ?_)
    have hq : r_16 = bI (decide ((1 : Int32) = 0)) := hq
    subst hq
    have hP : va_P D vwCl (oX9 mo zs zv (nI hn) zl zk zt vl 1 zg zi zw vg zo ze vc vr vt vo (bI vm) vp va vb vd vq zd vz :: aI cI zs 28 gs :: aI cI zg 200 gg :: aI cI zi 100 gi :: aI cI zw 100 gw :: aI cI zo 10000 go :: aI cI ze 100 ge :: aZ cZ zd 100 gd :: X) H := pm_P hP 8 [0, 1, 2, 3, 4, 5, 6, 7] rfl
    have hD : va_D A (oX9 mo zs zv (nI hn) zl zk zt vl 1 zg zi zw vg zo ze vc vr vt vo (bI vm) vp va vb vd vq zd vz :: aI cI zs 28 gs :: aI cI zg 200 gg :: aI cI zi 100 gi :: aI cI zw 100 gw :: aI cI zo 10000 go :: aI cI ze 100 ge :: aZ cZ zd 100 gd :: X) := pm_D hD 8 [0, 1, 2, 3, 4, 5, 6, 7] rfl rfl rfl
    refine top_i (y := 0) (by decide) ?_
    have c_19 : (0 : Int32) = 0 := by decide
    refine lv_if_ne (tgt := 24) hx hb dX9_count_19 (by decide) (fun q => absurd c_19 q) (fun _ => ?_)
    refine lv_iconst (v := 0) hx hb dX9_count_22 (by decide) ?_
    exact W.iret (v := 0) hx hb hr (fun t9 ht9 hW9 => ⟨⟨0, (1, vg, gg, gi, gw, go, ge, gd, vc, vr, vt, vo, vm), rfl, Or.inl ⟨out_rng (k := 9) (by decide) (bf_c c_8), rfl⟩, by rw [ht9]; exact hP, hD⟩, hS.F ht9⟩) hS.2.2 dX9_count_23
  · refine lv_iconst (v := 0) hx hb dX9_count_11 (by decide) ?_
    refine lv_goto (tgt := 16) hx hb dX9_count_12 (by decide) ?_
    refine cV_i CF hK hN hA hS (cut_of 8 [0, 1, 2, 3, 4, 5, 6, 7] hP hD rfl rfl rfl) (n_holds l D cI cZ cW cJ A (aI cI zs 28 gs :: aI cI zg 200 gg :: aI cI zi 100 gi :: aI cI zw 100 gw :: aI cI zo 10000 go :: aI cI ze 100 ge :: aZ cZ zd 100 gd :: X) mo zs zv zl zk zt zg zi zw zo ze zd (nI hn) vl vh vg vc vr vt vo vp va vb vd vq vm vz 0) (cwV 1 hts gX9_count_X9_holds rfl rfl rfl (by decide +kernel) ⟨Nat.le_of_ble_eq_true rfl, Nat.le_of_ble_eq_true rfl⟩) (As := [.int 0]) (rest := []) (ci := 9) (q0 := 0) rfl rfl rfl hl.1 rfl (Nat.le_of_ble_eq_true rfl) dX9_count_16 ⟨Nat.le_of_ble_eq_true rfl, Nat.le_of_ble_eq_true rfl⟩ (fun r_16 _ H locs hq hP hD hS => ?_)
    have hq : r_16 = bI (decide ((0 : Int32) = 0)) := hq
    subst hq
    have hP : va_P D vwCl (oX9 mo zs zv (nI hn) zl zk zt vl 0 zg zi zw vg zo ze vc vr vt vo (bI vm) vp va vb vd vq zd vz :: aI cI zs 28 gs :: aI cI zg 200 gg :: aI cI zi 100 gi :: aI cI zw 100 gw :: aI cI zo 10000 go :: aI cI ze 100 ge :: aZ cZ zd 100 gd :: X) H := pm_P hP 8 [0, 1, 2, 3, 4, 5, 6, 7] rfl
    have hD : va_D A (oX9 mo zs zv (nI hn) zl zk zt vl 0 zg zi zw vg zo ze vc vr vt vo (bI vm) vp va vb vd vq zd vz :: aI cI zs 28 gs :: aI cI zg 200 gg :: aI cI zi 100 gi :: aI cI zw 100 gw :: aI cI zo 10000 go :: aI cI ze 100 ge :: aZ cZ zd 100 gd :: X) := pm_D hD 8 [0, 1, 2, 3, 4, 5, 6, 7] rfl rfl rfl
    refine top_i (y := 1) (by decide) ?_
    have c_19 : ¬ (1 : Int32) = 0 := by decide
    refine lv_if_ne (tgt := 24) hx hb dX9_count_19 (by decide) (fun _ => ?_) (fun q => absurd q c_19)
    obtain ⟨k9, hk9, e3⟩ := in_rng (k := 9) (by decide) (bt_c c_8)
    refine lv_aload_n hx hb dX9_count_24 rfl (lv_at hl 0 rfl) ?_
    refine cV_v CF hK hN hA hS (cut_of 8 [0, 1, 2, 3, 4, 5, 6, 7] hP hD rfl rfl rfl) (n_findReaches l D cI cZ cW cJ A (aI cI ze 100 ge :: aZ cZ zd 100 gd :: X) mo zs zv zl zk zt zg zi zw zo ze zd (nI hn) vl 0 vg vc vr vt vo vp va vb vd vq vm vz gs gg gi gw go S hS0 hWf) (cwV 0 hts gX9_count_X9_findReaches rfl rfl rfl (by decide +kernel) ⟨Nat.le_of_ble_eq_true rfl, Nat.le_of_ble_eq_true rfl⟩) (As := []) (rest := []) (ci := 9) (q0 := 0) rfl rfl rfl hl.1 rfl (Nat.le_of_ble_eq_true rfl) dX9_count_25 ⟨Nat.le_of_ble_eq_true rfl, Nat.le_of_ble_eq_true rfl⟩ (fun u_25 H locs hq hP hD hS => ?_)
    have hq_25 : MapM S u_25.1 u_25.2.1 u_25.2.2.1 ∧ RchM S u_25.2.2.2.1 := hq
    have hP : va_P D vwCl (oX9 mo zs zv (nI hn) zl zk zt vl 0 zg zi zw (nI (nS S)) zo ze u_25.2.2.2.2.1 u_25.2.2.2.2.2.1 u_25.2.2.2.2.2.2.1 u_25.2.2.2.2.2.2.2.1 (bI u_25.2.2.2.2.2.2.2.2) vp va vb vd vq zd vz :: aI cI zs 28 gs :: aI cI zg 200 u_25.1 :: aI cI zi 100 u_25.2.1 :: aI cI zw 100 u_25.2.2.1 :: aI cI zo 10000 u_25.2.2.2.1 :: aI cI ze 100 ge :: aZ cZ zd 100 gd :: X) H := pm_P hP 8 [0, 1, 2, 3, 4, 5, 6, 7] rfl
    have hD : va_D A (oX9 mo zs zv (nI hn) zl zk zt vl 0 zg zi zw (nI (nS S)) zo ze u_25.2.2.2.2.1 u_25.2.2.2.2.2.1 u_25.2.2.2.2.2.2.1 u_25.2.2.2.2.2.2.2.1 (bI u_25.2.2.2.2.2.2.2.2) vp va vb vd vq zd vz :: aI cI zs 28 gs :: aI cI zg 200 u_25.1 :: aI cI zi 100 u_25.2.1 :: aI cI zw 100 u_25.2.2.1 :: aI cI zo 10000 u_25.2.2.2.1 :: aI cI ze 100 ge :: aZ cZ zd 100 gd :: X) := pm_D hD 8 [0, 1, 2, 3, 4, 5, 6, 7] rfl rfl rfl
    have hM : MapM S u_25.1 u_25.2.1 u_25.2.2.1 := hq_25.1
    have hR : RchM S u_25.2.2.2.1 := hq_25.2
    refine lv_aload_n hx hb dX9_count_28 rfl (lv_at hl 0 rfl) ?_
    refine lv_iload_n hx hb dX9_count_29 rfl (lv_at hl 1 rfl) ?_
    refine top_i (y := (nI k9)) e3 ?_
    refine cV_i CF hK hN hA hS (cut_of 8 [0, 1, 2, 3, 4, 5, 6, 7] hP hD rfl rfl rfl) (n_countTold l D cI cZ cW cJ A (aZ cZ zd 100 gd :: X) mo zs zv zl zk zt zg zi zw zo ze zd vl 0 u_25.2.2.2.2.1 u_25.2.2.2.2.2.1 u_25.2.2.2.2.2.2.1 u_25.2.2.2.2.2.2.2.1 vp va vb vd vq u_25.2.2.2.2.2.2.2.2 vz hn gs u_25.1 u_25.2.1 u_25.2.2.1 u_25.2.2.2.1 ge S k9 hS0 hWf hM hR hk9) (cwV 1 hts gX9_count_X9_countTold rfl rfl rfl (by decide +kernel) ⟨Nat.le_of_ble_eq_true rfl, Nat.le_of_ble_eq_true rfl⟩) (As := [.int (nI k9)]) (rest := []) (ci := 9) (q0 := 0) rfl rfl rfl hl.1 rfl (Nat.le_of_ble_eq_true rfl) dX9_count_30 ⟨Nat.le_of_ble_eq_true rfl, Nat.le_of_ble_eq_true rfl⟩ (fun r_30 u_30 H locs hq hP hD hS => ?_)
    have hq_30 : r_30 = countS S hn k9 ∧ True := hq
    have hr_30 : r_30 = countS S hn k9 := hq_30.1
    subst hr_30
    have hP : va_P D vwCl (oX9 mo zs zv (nI hn) zl zk zt vl 0 zg zi zw (nI (nS S)) zo ze u_25.2.2.2.2.1 u_25.2.2.2.2.2.1 u_25.2.2.2.2.2.2.1 u_25.2.2.2.2.2.2.2.1 (bI u_25.2.2.2.2.2.2.2.2) vp va vb vd vq zd vz :: aI cI zs 28 gs :: aI cI zg 200 u_25.1 :: aI cI zi 100 u_25.2.1 :: aI cI zw 100 u_25.2.2.1 :: aI cI zo 10000 u_25.2.2.2.1 :: aI cI ze 100 u_30 :: aZ cZ zd 100 gd :: X) H := pm_P hP 8 [0, 1, 2, 3, 4, 5, 6, 7] rfl
    have hD : va_D A (oX9 mo zs zv (nI hn) zl zk zt vl 0 zg zi zw (nI (nS S)) zo ze u_25.2.2.2.2.1 u_25.2.2.2.2.2.1 u_25.2.2.2.2.2.2.1 u_25.2.2.2.2.2.2.2.1 (bI u_25.2.2.2.2.2.2.2.2) vp va vb vd vq zd vz :: aI cI zs 28 gs :: aI cI zg 200 u_25.1 :: aI cI zi 100 u_25.2.1 :: aI cI zw 100 u_25.2.2.1 :: aI cI zo 10000 u_25.2.2.2.1 :: aI cI ze 100 u_30 :: aZ cZ zd 100 gd :: X) := pm_D hD 8 [0, 1, 2, 3, 4, 5, 6, 7] rfl rfl rfl
    exact W.iret (v := (countS S hn k9)) hx hb hr (fun t9 ht9 hW9 => ⟨⟨(countS S hn k9), (0, (nI (nS S)), u_25.1, u_25.2.1, u_25.2.2.1, u_25.2.2.2.1, u_30, gd, u_25.2.2.2.2.1, u_25.2.2.2.2.2.1, u_25.2.2.2.2.2.2.1, u_25.2.2.2.2.2.2.2.1, u_25.2.2.2.2.2.2.2.2), rfl, Or.inr ⟨k9, hk9, e3, rfl, rfl⟩, by rw [ht9]; exact hP, hD⟩, hS.F ht9⟩) hS.2.2 dX9_count_33
set_option maxHeartbeats 4000000 in
set_option maxRecDepth 100000 in
theorem n_setting (l : Launch) (D : va_G) (cI cZ cW cJ : ClassId) (A : Nat → Prop) (X : va_W) (mo zs zv zl zk zt zg zi zw zo ze zd : Nat) (vl vh vg vc vr vt vo vp va vb vd vq : Int32) (vm : Bool) (vz : Int64) (hn : Nat) (gs gg gi gw go ge gd : Nat → Int32) (S : KS) (xk : Int32) (hS0 : AbsM S gs) : Met l yX9_setting wsX9_setting ({ frames := 1, cells := 0, slots := 0, locals := 22 }) (va_Pc [.ref mo, .int xk] (wd D (tyL cI cZ cW cJ) A (oX9 mo zs zv (nI hn) zl zk zt vl vh zg zi zw vg zo ze vc vr vt vo (bI vm) vp va vb vd vq zd vz :: aI cI zs 28 gs :: aI cI zg 200 gg :: aI cI zi 100 gi :: aI cI zw 100 gw :: aI cI zo 10000 go :: aI cI ze 100 ge :: aZ cZ zd 100 gd :: X))) (va_Qi (fun (r : Int32) (u : Int32 × Int32 × (Nat → Int32) × (Nat → Int32) × (Nat → Int32) × (Nat → Int32) × (Nat → Int32) × (Nat → Int32) × Int32 × Int32 × Int32 × Int32 × Bool) => (isSetX xk = false ∧ u.1 = 1) ∨ (isSetX xk = true ∧ u.1 = 0 ∧ r = setS S xk.toNatClampNeg)) (fun (u : Int32 × Int32 × (Nat → Int32) × (Nat → Int32) × (Nat → Int32) × (Nat → Int32) × (Nat → Int32) × (Nat → Int32) × Int32 × Int32 × Int32 × Int32 × Bool) t => wq D A (oX9 mo zs zv (nI hn) zl zk zt vl u.1 zg zi zw u.2.1 zo ze u.2.2.2.2.2.2.2.2.1 u.2.2.2.2.2.2.2.2.2.1 u.2.2.2.2.2.2.2.2.2.2.1 u.2.2.2.2.2.2.2.2.2.2.2.1 (bI u.2.2.2.2.2.2.2.2.2.2.2.2) vp va vb vd vq zd vz :: aI cI zs 28 gs :: aI cI zg 200 u.2.2.1 :: aI cI zi 100 u.2.2.2.1 :: aI cI zw 100 u.2.2.2.2.1 :: aI cI zo 10000 u.2.2.2.2.2.1 :: aI cI ze 100 u.2.2.2.2.2.2.1 :: aZ cZ zd 100 u.2.2.2.2.2.2.2.1 :: X) t) A) 0 0 A := by
  refine Met.ofW (cc := cX9_setting) (maxL := 2) (ret := (some .int)) (by decide) rfl ?_
  intro p e s m args below meth c s₁ B hml hv
  obtain ⟨rfl, hsz9, hP, hK, hD, hN⟩ := hv
  have hx := B.exec
  have hb := B.bytes
  have hr := B.returns
  have hts := atoms_spec (ws := wsX9_setting) B.pre
  have hown : s.vm.findClass RX9 = some m.cls := findClass_of_methodNamed B.named
  have hlocks := B.notSynchronized
  have CF : CallFix p m c cX9_setting 2 s _ wsX9_setting RX9 := ⟨hx, hb, hml, hown, hts⟩
  have hA : ∀ q : Nat, s.heap.size ≤ q → A q := hsz9
  have hS : va_S A s.heap s.heap [] := va_S.rf
  have hiX9 : ∀ w ∈ u_ws RX9 TX9 26, w ∈ wsX9_setting := fun _ h => List.mem_cons_of_mem _ (List.mem_append_right _ (h))
  have hl := lv_entry ([.ref mo, .int xk]) (n := 2) (Nat.le_of_ble_eq_true rfl)
  rw [lg_entry_eq]
  generalize (lg_sl ([.ref mo, .int xk]) ++ List.replicate (2 - (lg_sl ([.ref mo, .int xk])).length) Slot.unset).toArray = ls at hl ⊢
  have hl : lv_has ls 2 [(0, .ref mo), (1, .int xk)] := hl
  show W p l e ({ frames := 1, cells := 0, slots := 0, locals := 22 } : Room) s m (([.ref mo, .int xk] : List Value).toArray) below meth c s.heap [] 0 0 (MQ below (va_Qi (fun (r : Int32) (u : Int32 × Int32 × (Nat → Int32) × (Nat → Int32) × (Nat → Int32) × (Nat → Int32) × (Nat → Int32) × (Nat → Int32) × Int32 × Int32 × Int32 × Int32 × Bool) => (isSetX xk = false ∧ u.1 = 1) ∨ (isSetX xk = true ∧ u.1 = 0 ∧ r = setS S xk.toNatClampNeg)) (fun (u : Int32 × Int32 × (Nat → Int32) × (Nat → Int32) × (Nat → Int32) × (Nat → Int32) × (Nat → Int32) × (Nat → Int32) × Int32 × Int32 × Int32 × Int32 × Bool) t => wq D A (oX9 mo zs zv (nI hn) zl zk zt vl u.1 zg zi zw u.2.1 zo ze u.2.2.2.2.2.2.2.2.1 u.2.2.2.2.2.2.2.2.2.1 u.2.2.2.2.2.2.2.2.2.2.1 u.2.2.2.2.2.2.2.2.2.2.2.1 (bI u.2.2.2.2.2.2.2.2.2.2.2.2) vp va vb vd vq zd vz :: aI cI zs 28 gs :: aI cI zg 200 u.2.2.1 :: aI cI zi 100 u.2.2.2.1 :: aI cI zw 100 u.2.2.2.2.1 :: aI cI zo 10000 u.2.2.2.2.2.1 :: aI cI ze 100 u.2.2.2.2.2.2.1 :: aZ cZ zd 100 u.2.2.2.2.2.2.2.1 :: X) t) A) (([.ref mo, .int xk] : List Value).toArray) s 0 0 A) (F0 m 0 ls [])
  refine lv_aload_n hx hb dX9_setting_0 rfl (lv_at hl 0 rfl) ?_
  refine lv_iload_n hx hb dX9_setting_1 rfl (lv_at hl 1 rfl) ?_
  refine lv_iconst (v := 0) hx hb dX9_setting_2 (by decide) ?_
  refine lv_iconst (v := 2) hx hb dX9_setting_3 (by decide) ?_
  refine cS_i CF hK hN hA hS (cut_of 8 [0, 1, 2, 3, 4, 5, 6, 7] hP hD rfl rfl rfl) (n_in l D cI cZ cW cJ A (oX9 mo zs zv (nI hn) zl zk zt vl vh zg zi zw vg zo ze vc vr vt vo (bI vm) vp va vb vd vq zd vz :: aI cI zs 28 gs :: aI cI zg 200 gg :: aI cI zi 100 gi :: aI cI zw 100 gw :: aI cI zo 10000 go :: aI cI ze 100 ge :: aZ cZ zd 100 gd :: X) xk 0 2) (va_cwS 3 hts gX9_setting_X9_in rfl rfl rfl (by decide +kernel) ⟨Nat.le_of_ble_eq_true rfl, Nat.le_of_ble_eq_true rfl⟩) (As := [.int xk, .int 0, .int 2]) (rest := [.ref mo]) rfl hl.1 rfl (Nat.le_of_ble_eq_true rfl) dX9_setting_4 ⟨Nat.le_of_ble_eq_true rfl, Nat.le_of_ble_eq_true rfl⟩ (fun r_4 _ H locs hq hP hD hS => ?_)
  have hq : r_4 = bI (inX xk 0 2) := hq
  subst hq
  have hP : va_P D vwCl (oX9 mo zs zv (nI hn) zl zk zt vl vh zg zi zw vg zo ze vc vr vt vo (bI vm) vp va vb vd vq zd vz :: aI cI zs 28 gs :: aI cI zg 200 gg :: aI cI zi 100 gi :: aI cI zw 100 gw :: aI cI zo 10000 go :: aI cI ze 100 ge :: aZ cZ zd 100 gd :: X) H := pm_P hP 8 [0, 1, 2, 3, 4, 5, 6, 7] rfl
  have hD : va_D A (oX9 mo zs zv (nI hn) zl zk zt vl vh zg zi zw vg zo ze vc vr vt vo (bI vm) vp va vb vd vq zd vz :: aI cI zs 28 gs :: aI cI zg 200 gg :: aI cI zi 100 gi :: aI cI zw 100 gw :: aI cI zo 10000 go :: aI cI ze 100 ge :: aZ cZ zd 100 gd :: X) := pm_D hD 8 [0, 1, 2, 3, 4, 5, 6, 7] rfl rfl rfl
  refine lv_if_eq (tgt := 14) hx hb dX9_setting_7 (by decide) (fun c_7 => ?_) (fun c_7 => ?_)
  · refine lv_iconst (v := 1) hx hb dX9_setting_14 (by decide) ?_
    refine cV_i CF hK hN hA hS (cut_of 8 [0, 1, 2, 3, 4, 5, 6, 7] hP hD rfl rfl rfl) (n_holds l D cI cZ cW cJ A (aI cI zs 28 gs :: aI cI zg 200 gg :: aI cI zi 100 gi :: aI cI zw 100 gw :: aI cI zo 10000 go :: aI cI ze 100 ge :: aZ cZ zd 100 gd :: X) mo zs zv zl zk zt zg zi zw zo ze zd (nI hn) vl vh vg vc vr vt vo vp va vb vd vq vm vz 1) (cwV 1 hts gX9_setting_X9_holds rfl rfl rfl (by decide +kernel) ⟨Nat.le_of_ble_eq_true rfl, Nat.le_of_ble_eq_true rfl⟩) (As := [.int 1]) (rest := []) (ci := 9) (q0 := 0) rfl rfl rfl hl.1 rfl (Nat.le_of_ble_eq_true rfl) dX9_setting_15 ⟨Nat.le_of_ble_eq_true rfl, Nat.le_of_ble_eq_true rfl⟩ (fun r_15 _ H locs hq hP hD hS => ?_)
    have hq : r_15 = bI (decide ((1 : Int32) = 0)) := hq
    subst hq
    have hP : va_P D vwCl (oX9 mo zs zv (nI hn) zl zk zt vl 1 zg zi zw vg zo ze vc vr vt vo (bI vm) vp va vb vd vq zd vz :: aI cI zs 28 gs :: aI cI zg 200 gg :: aI cI zi 100 gi :: aI cI zw 100 gw :: aI cI zo 10000 go :: aI cI ze 100 ge :: aZ cZ zd 100 gd :: X) H := pm_P hP 8 [0, 1, 2, 3, 4, 5, 6, 7] rfl
    have hD : va_D A (oX9 mo zs zv (nI hn) zl zk zt vl 1 zg zi zw vg zo ze vc vr vt vo (bI vm) vp va vb vd vq zd vz :: aI cI zs 28 gs :: aI cI zg 200 gg :: aI cI zi 100 gi :: aI cI zw 100 gw :: aI cI zo 10000 go :: aI cI ze 100 ge :: aZ cZ zd 100 gd :: X) := pm_D hD 8 [0, 1, 2, 3, 4, 5, 6, 7] rfl rfl rfl
    refine top_i (y := 0) (by decide) ?_
    have c_18 : (0 : Int32) = 0 := by decide
    refine lv_if_eq (tgt := 33) hx hb dX9_setting_18 (by decide) (fun _ => ?_) (fun q => absurd c_18 q)
    refine lv_iconst (v := 0) hx hb dX9_setting_33 (by decide) ?_
    exact W.iret (v := 0) hx hb hr (fun t9 ht9 hW9 => ⟨⟨0, (1, vg, gg, gi, gw, go, ge, gd, vc, vr, vt, vo, vm), rfl, Or.inl ⟨by rw [set_in]; exact bf_c c_7, rfl⟩, by rw [ht9]; exact hP, hD⟩, hS.F ht9⟩) hS.2.2 dX9_setting_34
  · refine lv_iconst (v := 0) hx hb dX9_setting_10 (by decide) ?_
    refine lv_goto (tgt := 15) hx hb dX9_setting_11 (by decide) ?_
    refine cV_i CF hK hN hA hS (cut_of 8 [0, 1, 2, 3, 4, 5, 6, 7] hP hD rfl rfl rfl) (n_holds l D cI cZ cW cJ A (aI cI zs 28 gs :: aI cI zg 200 gg :: aI cI zi 100 gi :: aI cI zw 100 gw :: aI cI zo 10000 go :: aI cI ze 100 ge :: aZ cZ zd 100 gd :: X) mo zs zv zl zk zt zg zi zw zo ze zd (nI hn) vl vh vg vc vr vt vo vp va vb vd vq vm vz 0) (cwV 1 hts gX9_setting_X9_holds rfl rfl rfl (by decide +kernel) ⟨Nat.le_of_ble_eq_true rfl, Nat.le_of_ble_eq_true rfl⟩) (As := [.int 0]) (rest := []) (ci := 9) (q0 := 0) rfl rfl rfl hl.1 rfl (Nat.le_of_ble_eq_true rfl) dX9_setting_15 ⟨Nat.le_of_ble_eq_true rfl, Nat.le_of_ble_eq_true rfl⟩ (fun r_15 _ H locs hq hP hD hS => ?_)
    have hq : r_15 = bI (decide ((0 : Int32) = 0)) := hq
    subst hq
    have hP : va_P D vwCl (oX9 mo zs zv (nI hn) zl zk zt vl 0 zg zi zw vg zo ze vc vr vt vo (bI vm) vp va vb vd vq zd vz :: aI cI zs 28 gs :: aI cI zg 200 gg :: aI cI zi 100 gi :: aI cI zw 100 gw :: aI cI zo 10000 go :: aI cI ze 100 ge :: aZ cZ zd 100 gd :: X) H := pm_P hP 8 [0, 1, 2, 3, 4, 5, 6, 7] rfl
    have hD : va_D A (oX9 mo zs zv (nI hn) zl zk zt vl 0 zg zi zw vg zo ze vc vr vt vo (bI vm) vp va vb vd vq zd vz :: aI cI zs 28 gs :: aI cI zg 200 gg :: aI cI zi 100 gi :: aI cI zw 100 gw :: aI cI zo 10000 go :: aI cI ze 100 ge :: aZ cZ zd 100 gd :: X) := pm_D hD 8 [0, 1, 2, 3, 4, 5, 6, 7] rfl rfl rfl
    refine top_i (y := 1) (by decide) ?_
    have c_18 : ¬ (1 : Int32) = 0 := by decide
    refine lv_if_eq (tgt := 33) hx hb dX9_setting_18 (by decide) (fun q => absurd q c_18) (fun _ => ?_)
    obtain ⟨ks, hks, e1⟩ := isSet_nI (by rw [set_in]; exact bt_c c_7)
    refine lv_aload_n hx hb dX9_setting_21 rfl (lv_at hl 0 rfl) ?_
    refine va_get (D := D) (ci := 9) (v := .ref zs) (C := RX9) (T := TX9) (N := 26) hx hb hts hiX9 hown hK hP 0 rfl rfl 0 (by decide) (hts (.fieldLink RX9 7 "LedgeLeapsModel" "s" "[I") (List.mem_of_getElem? (i := 1) rfl)) (fun _ h9 => h9) rfl dX9_setting_22 ?_
    refine lv_bipush (v := 20) hx hb dX9_setting_25 (by decide) ?_
    refine lv_iload_n hx hb dX9_setting_27 rfl (lv_at hl 1 rfl) ?_
    refine top_i (y := (nI ks)) e1 ?_
    refine lv_iadd hx hb dX9_setting_28 ?_
    refine top_i (y := (nI (20 + ks))) (nI_add 20 ks) ?_
    refine va_iald hx hb hK hP 1 0 rfl rfl (vp_ix (e := (20 + ks)) (rfl) (by omega) (by decide)) dX9_setting_29 ?_
    refine top_i (y := (gs (20 + ks))) (ld_ix (f := gs) (x := (nI (20 + ks))) (e := (20 + ks)) (n := 28) (rfl) (by omega) (by decide)) ?_
    refine top_i (y := (setS S ks)) (hS0.getS hks) ?_
    refine lv_goto (tgt := 34) hx hb dX9_setting_30 (by decide) ?_
    exact W.iret (v := (setS S ks)) hx hb hr (fun t9 ht9 hW9 => ⟨⟨(setS S ks), (0, vg, gg, gi, gw, go, ge, gd, vc, vr, vt, vo, vm), rfl, Or.inr ⟨by rw [set_in]; exact bt_c c_7, rfl, by rw [e1, nI_clamp (by omega)]⟩, by rw [ht9]; exact hP, hD⟩, hS.F ht9⟩) hS.2.2 dX9_setting_34
set_option maxHeartbeats 4000000 in
set_option maxRecDepth 100000 in
theorem n_arc (l : Launch) (D : va_G) (cI cZ cW cJ : ClassId) (A : Nat → Prop) (X : va_W) (mo zs zv zl zk zt zg zi zw zo ze zd : Nat) (vl vh vg vc vr vt vo vp va vb vd vq : Int32) (vm : Bool) (vz : Int64) (hn : Nat) (gs gg gi gw go ge gd : Nat → Int32) (S : KS) (xt xk : Int32) (hS0 : AbsM S gs) (hWf : Wf S) : Met l yX9_arc wsX9_arc ({ frames := 1, cells := 0, slots := 0, locals := 24 }) (va_Pc [.ref mo, .int xt, .int xk] (wd D (tyL cI cZ cW cJ) A (oX9 mo zs zv (nI hn) zl zk zt vl vh zg zi zw vg zo ze vc vr vt vo (bI vm) vp va vb vd vq zd vz :: aI cI zs 28 gs :: aI cI zg 200 gg :: aI cI zi 100 gi :: aI cI zw 100 gw :: aI cI zo 10000 go :: aI cI ze 100 ge :: aZ cZ zd 100 gd :: X))) (va_Qi (fun (r : Int32) (u : Int32 × Int32 × (Nat → Int32) × (Nat → Int32) × (Nat → Int32) × (Nat → Int32) × (Nat → Int32) × (Nat → Int32) × Int32 × Int32 × Int32 × Int32 × Bool) => ((xt < 0 ∨ 30 < xt ∨ xk < 0 ∨ 1 < xk) ∧ u.1 = 1) ∨ (∃ t8 k9 : Nat, t8 ≤ 30 ∧ k9 ≤ 1 ∧ xt = nI t8 ∧ xk = nI k9 ∧ u.1 = 0 ∧ r = arcS S t8)) (fun (u : Int32 × Int32 × (Nat → Int32) × (Nat → Int32) × (Nat → Int32) × (Nat → Int32) × (Nat → Int32) × (Nat → Int32) × Int32 × Int32 × Int32 × Int32 × Bool) t => wq D A (oX9 mo zs zv (nI hn) zl zk zt vl u.1 zg zi zw u.2.1 zo ze u.2.2.2.2.2.2.2.2.1 u.2.2.2.2.2.2.2.2.2.1 u.2.2.2.2.2.2.2.2.2.2.1 u.2.2.2.2.2.2.2.2.2.2.2.1 (bI u.2.2.2.2.2.2.2.2.2.2.2.2) vp va vb vd vq zd vz :: aI cI zs 28 gs :: aI cI zg 200 u.2.2.1 :: aI cI zi 100 u.2.2.2.1 :: aI cI zw 100 u.2.2.2.2.1 :: aI cI zo 10000 u.2.2.2.2.2.1 :: aI cI ze 100 u.2.2.2.2.2.2.1 :: aZ cZ zd 100 u.2.2.2.2.2.2.2.1 :: X) t) A) 0 0 A := by
  refine Met.ofW (cc := cX9_arc) (maxL := 3) (ret := (some .int)) (by decide) rfl ?_
  intro p e s m args below meth c s₁ B hml hv
  obtain ⟨rfl, hsz9, hP, hK, hD, hN⟩ := hv
  have hx := B.exec
  have hb := B.bytes
  have hr := B.returns
  have hts := atoms_spec (ws := wsX9_arc) B.pre
  have hown : s.vm.findClass RX9 = some m.cls := findClass_of_methodNamed B.named
  have hlocks := B.notSynchronized
  have CF : CallFix p m c cX9_arc 3 s _ wsX9_arc RX9 := ⟨hx, hb, hml, hown, hts⟩
  have hA : ∀ q : Nat, s.heap.size ≤ q → A q := hsz9
  have hS : va_S A s.heap s.heap [] := va_S.rf
  have hl := lv_entry ([.ref mo, .int xt, .int xk]) (n := 3) (Nat.le_of_ble_eq_true rfl)
  rw [lg_entry_eq]
  generalize (lg_sl ([.ref mo, .int xt, .int xk]) ++ List.replicate (3 - (lg_sl ([.ref mo, .int xt, .int xk])).length) Slot.unset).toArray = ls at hl ⊢
  have hl : lv_has ls 3 [(0, .ref mo), (1, .int xt), (2, .int xk)] := hl
  show W p l e ({ frames := 1, cells := 0, slots := 0, locals := 24 } : Room) s m (([.ref mo, .int xt, .int xk] : List Value).toArray) below meth c s.heap [] 0 0 (MQ below (va_Qi (fun (r : Int32) (u : Int32 × Int32 × (Nat → Int32) × (Nat → Int32) × (Nat → Int32) × (Nat → Int32) × (Nat → Int32) × (Nat → Int32) × Int32 × Int32 × Int32 × Int32 × Bool) => ((xt < 0 ∨ 30 < xt ∨ xk < 0 ∨ 1 < xk) ∧ u.1 = 1) ∨ (∃ t8 k9 : Nat, t8 ≤ 30 ∧ k9 ≤ 1 ∧ xt = nI t8 ∧ xk = nI k9 ∧ u.1 = 0 ∧ r = arcS S t8)) (fun (u : Int32 × Int32 × (Nat → Int32) × (Nat → Int32) × (Nat → Int32) × (Nat → Int32) × (Nat → Int32) × (Nat → Int32) × Int32 × Int32 × Int32 × Int32 × Bool) t => wq D A (oX9 mo zs zv (nI hn) zl zk zt vl u.1 zg zi zw u.2.1 zo ze u.2.2.2.2.2.2.2.2.1 u.2.2.2.2.2.2.2.2.2.1 u.2.2.2.2.2.2.2.2.2.2.1 u.2.2.2.2.2.2.2.2.2.2.2.1 (bI u.2.2.2.2.2.2.2.2.2.2.2.2) vp va vb vd vq zd vz :: aI cI zs 28 gs :: aI cI zg 200 u.2.2.1 :: aI cI zi 100 u.2.2.2.1 :: aI cI zw 100 u.2.2.2.2.1 :: aI cI zo 10000 u.2.2.2.2.2.1 :: aI cI ze 100 u.2.2.2.2.2.2.1 :: aZ cZ zd 100 u.2.2.2.2.2.2.2.1 :: X) t) A) (([.ref mo, .int xt, .int xk] : List Value).toArray) s 0 0 A) (F0 m 0 ls [])
  refine lv_aload_n hx hb dX9_arc_0 rfl (lv_at hl 0 rfl) ?_
  refine lv_iload_n hx hb dX9_arc_1 rfl (lv_at hl 1 rfl) ?_
  refine lv_iconst (v := 0) hx hb dX9_arc_2 (by decide) ?_
  refine lv_bipush (v := 30) hx hb dX9_arc_3 (by decide) ?_
  refine cS_i CF hK hN hA hS (cut_of 8 [0, 1, 2, 3, 4, 5, 6, 7] hP hD rfl rfl rfl) (n_in l D cI cZ cW cJ A (oX9 mo zs zv (nI hn) zl zk zt vl vh zg zi zw vg zo ze vc vr vt vo (bI vm) vp va vb vd vq zd vz :: aI cI zs 28 gs :: aI cI zg 200 gg :: aI cI zi 100 gi :: aI cI zw 100 gw :: aI cI zo 10000 go :: aI cI ze 100 ge :: aZ cZ zd 100 gd :: X) xt 0 30) (va_cwS 3 hts gX9_arc_X9_in rfl rfl rfl (by decide +kernel) ⟨Nat.le_of_ble_eq_true rfl, Nat.le_of_ble_eq_true rfl⟩) (As := [.int xt, .int 0, .int 30]) (rest := [.ref mo]) rfl hl.1 rfl (Nat.le_of_ble_eq_true rfl) dX9_arc_5 ⟨Nat.le_of_ble_eq_true rfl, Nat.le_of_ble_eq_true rfl⟩ (fun r_5 _ H locs hq hP hD hS => ?_)
  have hq : r_5 = bI (inX xt 0 30) := hq
  subst hq
  have hP : va_P D vwCl (oX9 mo zs zv (nI hn) zl zk zt vl vh zg zi zw vg zo ze vc vr vt vo (bI vm) vp va vb vd vq zd vz :: aI cI zs 28 gs :: aI cI zg 200 gg :: aI cI zi 100 gi :: aI cI zw 100 gw :: aI cI zo 10000 go :: aI cI ze 100 ge :: aZ cZ zd 100 gd :: X) H := pm_P hP 8 [0, 1, 2, 3, 4, 5, 6, 7] rfl
  have hD : va_D A (oX9 mo zs zv (nI hn) zl zk zt vl vh zg zi zw vg zo ze vc vr vt vo (bI vm) vp va vb vd vq zd vz :: aI cI zs 28 gs :: aI cI zg 200 gg :: aI cI zi 100 gi :: aI cI zw 100 gw :: aI cI zo 10000 go :: aI cI ze 100 ge :: aZ cZ zd 100 gd :: X) := pm_D hD 8 [0, 1, 2, 3, 4, 5, 6, 7] rfl rfl rfl
  refine lv_if_eq (tgt := 24) hx hb dX9_arc_8 (by decide) (fun c_8 => ?_) (fun c_8 => ?_)
  · refine lv_iconst (v := 1) hx hb dX9_arc_24 (by decide) ?_
    refine cV_i CF hK hN hA hS (cut_of 8 [0, 1, 2, 3, 4, 5, 6, 7] hP hD rfl rfl rfl) (n_holds l D cI cZ cW cJ A (aI cI zs 28 gs :: aI cI zg 200 gg :: aI cI zi 100 gi :: aI cI zw 100 gw :: aI cI zo 10000 go :: aI cI ze 100 ge :: aZ cZ zd 100 gd :: X) mo zs zv zl zk zt zg zi zw zo ze zd (nI hn) vl vh vg vc vr vt vo vp va vb vd vq vm vz 1) (cwV 1 hts gX9_arc_X9_holds rfl rfl rfl (by decide +kernel) ⟨Nat.le_of_ble_eq_true rfl, Nat.le_of_ble_eq_true rfl⟩) (As := [.int 1]) (rest := []) (ci := 9) (q0 := 0) rfl rfl rfl hl.1 rfl (Nat.le_of_ble_eq_true rfl) dX9_arc_25 ⟨Nat.le_of_ble_eq_true rfl, Nat.le_of_ble_eq_true rfl⟩ (fun r_25 _ H locs hq hP hD hS => ?_)
    have hq : r_25 = bI (decide ((1 : Int32) = 0)) := hq
    subst hq
    have hP : va_P D vwCl (oX9 mo zs zv (nI hn) zl zk zt vl 1 zg zi zw vg zo ze vc vr vt vo (bI vm) vp va vb vd vq zd vz :: aI cI zs 28 gs :: aI cI zg 200 gg :: aI cI zi 100 gi :: aI cI zw 100 gw :: aI cI zo 10000 go :: aI cI ze 100 ge :: aZ cZ zd 100 gd :: X) H := pm_P hP 8 [0, 1, 2, 3, 4, 5, 6, 7] rfl
    have hD : va_D A (oX9 mo zs zv (nI hn) zl zk zt vl 1 zg zi zw vg zo ze vc vr vt vo (bI vm) vp va vb vd vq zd vz :: aI cI zs 28 gs :: aI cI zg 200 gg :: aI cI zi 100 gi :: aI cI zw 100 gw :: aI cI zo 10000 go :: aI cI ze 100 ge :: aZ cZ zd 100 gd :: X) := pm_D hD 8 [0, 1, 2, 3, 4, 5, 6, 7] rfl rfl rfl
    refine top_i (y := 0) (by decide) ?_
    have c_28 : (0 : Int32) = 0 := by decide
    refine lv_if_eq (tgt := 39) hx hb dX9_arc_28 (by decide) (fun _ => ?_) (fun q => absurd c_28 q)
    refine lv_iconst (v := 0) hx hb dX9_arc_39 (by decide) ?_
    exact W.iret (v := 0) hx hb hr (fun t9 ht9 hW9 => ⟨⟨0, (1, vg, gg, gi, gw, go, ge, gd, vc, vr, vt, vo, vm), rfl, Or.inl ⟨(out_lh (bf_c c_8)).imp id Or.inl, rfl⟩, by rw [ht9]; exact hP, hD⟩, hS.F ht9⟩) hS.2.2 dX9_arc_40
  · refine lv_iload_n hx hb dX9_arc_11 rfl (lv_at hl 2 rfl) ?_
    refine lv_iconst (v := 0) hx hb dX9_arc_12 (by decide) ?_
    refine lv_iconst (v := 1) hx hb dX9_arc_13 (by decide) ?_
    refine cS_i CF hK hN hA hS (cut_of 8 [0, 1, 2, 3, 4, 5, 6, 7] hP hD rfl rfl rfl) (n_in l D cI cZ cW cJ A (oX9 mo zs zv (nI hn) zl zk zt vl vh zg zi zw vg zo ze vc vr vt vo (bI vm) vp va vb vd vq zd vz :: aI cI zs 28 gs :: aI cI zg 200 gg :: aI cI zi 100 gi :: aI cI zw 100 gw :: aI cI zo 10000 go :: aI cI ze 100 ge :: aZ cZ zd 100 gd :: X) xk 0 1) (va_cwS 3 hts gX9_arc_X9_in rfl rfl rfl (by decide +kernel) ⟨Nat.le_of_ble_eq_true rfl, Nat.le_of_ble_eq_true rfl⟩) (As := [.int xk, .int 0, .int 1]) (rest := [.ref mo]) rfl hl.1 rfl (Nat.le_of_ble_eq_true rfl) dX9_arc_14 ⟨Nat.le_of_ble_eq_true rfl, Nat.le_of_ble_eq_true rfl⟩ (fun r_14 _ H locs hq hP hD hS => ?_)
    have hq : r_14 = bI (inX xk 0 1) := hq
    subst hq
    have hP : va_P D vwCl (oX9 mo zs zv (nI hn) zl zk zt vl vh zg zi zw vg zo ze vc vr vt vo (bI vm) vp va vb vd vq zd vz :: aI cI zs 28 gs :: aI cI zg 200 gg :: aI cI zi 100 gi :: aI cI zw 100 gw :: aI cI zo 10000 go :: aI cI ze 100 ge :: aZ cZ zd 100 gd :: X) H := pm_P hP 8 [0, 1, 2, 3, 4, 5, 6, 7] rfl
    have hD : va_D A (oX9 mo zs zv (nI hn) zl zk zt vl vh zg zi zw vg zo ze vc vr vt vo (bI vm) vp va vb vd vq zd vz :: aI cI zs 28 gs :: aI cI zg 200 gg :: aI cI zi 100 gi :: aI cI zw 100 gw :: aI cI zo 10000 go :: aI cI ze 100 ge :: aZ cZ zd 100 gd :: X) := pm_D hD 8 [0, 1, 2, 3, 4, 5, 6, 7] rfl rfl rfl
    refine lv_if_eq (tgt := 24) hx hb dX9_arc_17 (by decide) (fun c_17 => ?_) (fun c_17 => ?_)
    · refine lv_iconst (v := 1) hx hb dX9_arc_24 (by decide) ?_
      refine cV_i CF hK hN hA hS (cut_of 8 [0, 1, 2, 3, 4, 5, 6, 7] hP hD rfl rfl rfl) (n_holds l D cI cZ cW cJ A (aI cI zs 28 gs :: aI cI zg 200 gg :: aI cI zi 100 gi :: aI cI zw 100 gw :: aI cI zo 10000 go :: aI cI ze 100 ge :: aZ cZ zd 100 gd :: X) mo zs zv zl zk zt zg zi zw zo ze zd (nI hn) vl vh vg vc vr vt vo vp va vb vd vq vm vz 1) (cwV 1 hts gX9_arc_X9_holds rfl rfl rfl (by decide +kernel) ⟨Nat.le_of_ble_eq_true rfl, Nat.le_of_ble_eq_true rfl⟩) (As := [.int 1]) (rest := []) (ci := 9) (q0 := 0) rfl rfl rfl hl.1 rfl (Nat.le_of_ble_eq_true rfl) dX9_arc_25 ⟨Nat.le_of_ble_eq_true rfl, Nat.le_of_ble_eq_true rfl⟩ (fun r_25 _ H locs hq hP hD hS => ?_)
      have hq : r_25 = bI (decide ((1 : Int32) = 0)) := hq
      subst hq
      have hP : va_P D vwCl (oX9 mo zs zv (nI hn) zl zk zt vl 1 zg zi zw vg zo ze vc vr vt vo (bI vm) vp va vb vd vq zd vz :: aI cI zs 28 gs :: aI cI zg 200 gg :: aI cI zi 100 gi :: aI cI zw 100 gw :: aI cI zo 10000 go :: aI cI ze 100 ge :: aZ cZ zd 100 gd :: X) H := pm_P hP 8 [0, 1, 2, 3, 4, 5, 6, 7] rfl
      have hD : va_D A (oX9 mo zs zv (nI hn) zl zk zt vl 1 zg zi zw vg zo ze vc vr vt vo (bI vm) vp va vb vd vq zd vz :: aI cI zs 28 gs :: aI cI zg 200 gg :: aI cI zi 100 gi :: aI cI zw 100 gw :: aI cI zo 10000 go :: aI cI ze 100 ge :: aZ cZ zd 100 gd :: X) := pm_D hD 8 [0, 1, 2, 3, 4, 5, 6, 7] rfl rfl rfl
      refine top_i (y := 0) (by decide) ?_
      have c_28 : (0 : Int32) = 0 := by decide
      refine lv_if_eq (tgt := 39) hx hb dX9_arc_28 (by decide) (fun _ => ?_) (fun q => absurd c_28 q)
      refine lv_iconst (v := 0) hx hb dX9_arc_39 (by decide) ?_
      exact W.iret (v := 0) hx hb hr (fun t9 ht9 hW9 => ⟨⟨0, (1, vg, gg, gi, gw, go, ge, gd, vc, vr, vt, vo, vm), rfl, Or.inl ⟨Or.inr (Or.inr (out_lh (bf_c c_17))), rfl⟩, by rw [ht9]; exact hP, hD⟩, hS.F ht9⟩) hS.2.2 dX9_arc_40
    · refine lv_iconst (v := 0) hx hb dX9_arc_20 (by decide) ?_
      refine lv_goto (tgt := 25) hx hb dX9_arc_21 (by decide) ?_
      refine cV_i CF hK hN hA hS (cut_of 8 [0, 1, 2, 3, 4, 5, 6, 7] hP hD rfl rfl rfl) (n_holds l D cI cZ cW cJ A (aI cI zs 28 gs :: aI cI zg 200 gg :: aI cI zi 100 gi :: aI cI zw 100 gw :: aI cI zo 10000 go :: aI cI ze 100 ge :: aZ cZ zd 100 gd :: X) mo zs zv zl zk zt zg zi zw zo ze zd (nI hn) vl vh vg vc vr vt vo vp va vb vd vq vm vz 0) (cwV 1 hts gX9_arc_X9_holds rfl rfl rfl (by decide +kernel) ⟨Nat.le_of_ble_eq_true rfl, Nat.le_of_ble_eq_true rfl⟩) (As := [.int 0]) (rest := []) (ci := 9) (q0 := 0) rfl rfl rfl hl.1 rfl (Nat.le_of_ble_eq_true rfl) dX9_arc_25 ⟨Nat.le_of_ble_eq_true rfl, Nat.le_of_ble_eq_true rfl⟩ (fun r_25 _ H locs hq hP hD hS => ?_)
      have hq : r_25 = bI (decide ((0 : Int32) = 0)) := hq
      subst hq
      have hP : va_P D vwCl (oX9 mo zs zv (nI hn) zl zk zt vl 0 zg zi zw vg zo ze vc vr vt vo (bI vm) vp va vb vd vq zd vz :: aI cI zs 28 gs :: aI cI zg 200 gg :: aI cI zi 100 gi :: aI cI zw 100 gw :: aI cI zo 10000 go :: aI cI ze 100 ge :: aZ cZ zd 100 gd :: X) H := pm_P hP 8 [0, 1, 2, 3, 4, 5, 6, 7] rfl
      have hD : va_D A (oX9 mo zs zv (nI hn) zl zk zt vl 0 zg zi zw vg zo ze vc vr vt vo (bI vm) vp va vb vd vq zd vz :: aI cI zs 28 gs :: aI cI zg 200 gg :: aI cI zi 100 gi :: aI cI zw 100 gw :: aI cI zo 10000 go :: aI cI ze 100 ge :: aZ cZ zd 100 gd :: X) := pm_D hD 8 [0, 1, 2, 3, 4, 5, 6, 7] rfl rfl rfl
      refine top_i (y := 1) (by decide) ?_
      have c_28 : ¬ (1 : Int32) = 0 := by decide
      refine lv_if_eq (tgt := 39) hx hb dX9_arc_28 (by decide) (fun q => absurd q c_28) (fun _ => ?_)
      obtain ⟨t8, ht8, e1⟩ := in_rng (k := 30) (by decide) (bt_c c_8)
      obtain ⟨k9, hk9, e3⟩ := in_rng (k := 1) (by decide) (bt_c c_17)
      refine lv_aload_n hx hb dX9_arc_31 rfl (lv_at hl 0 rfl) ?_
      refine lv_iload_n hx hb dX9_arc_32 rfl (lv_at hl 1 rfl) ?_
      refine top_i (y := (nI t8)) e1 ?_
      refine cV_i CF hK hN hA hS (cut_of 8 [0, 1, 2, 3, 4, 5, 6, 7] hP hD rfl rfl rfl) (n_heightBehind l D cI cZ cW cJ A (aI cI zg 200 gg :: aI cI zi 100 gi :: aI cI zw 100 gw :: aI cI zo 10000 go :: aI cI ze 100 ge :: aZ cZ zd 100 gd :: X) mo zs zv zl zk zt zg zi zw zo ze zd (nI hn) vl 0 vg vc vr vt vo vp va vb vd vq vm vz gs S t8 hS0 hWf (by omega)) (cwV 1 hts gX9_arc_X9_heightBehind rfl rfl rfl (by decide +kernel) ⟨Nat.le_of_ble_eq_true rfl, Nat.le_of_ble_eq_true rfl⟩) (As := [.int (nI t8)]) (rest := []) (ci := 9) (q0 := 0) rfl rfl rfl hl.1 rfl (Nat.le_of_ble_eq_true rfl) dX9_arc_33 ⟨Nat.le_of_ble_eq_true rfl, Nat.le_of_ble_eq_true rfl⟩ (fun r_33 _ H locs hq hP hD hS => ?_)
      have hq : r_33 = arcS S t8 := hq
      subst hq
      have hP : va_P D vwCl (oX9 mo zs zv (nI hn) zl zk zt vl 0 zg zi zw vg zo ze vc vr vt vo (bI vm) vp va vb vd vq zd vz :: aI cI zs 28 gs :: aI cI zg 200 gg :: aI cI zi 100 gi :: aI cI zw 100 gw :: aI cI zo 10000 go :: aI cI ze 100 ge :: aZ cZ zd 100 gd :: X) H := pm_P hP 8 [0, 1, 2, 3, 4, 5, 6, 7] rfl
      have hD : va_D A (oX9 mo zs zv (nI hn) zl zk zt vl 0 zg zi zw vg zo ze vc vr vt vo (bI vm) vp va vb vd vq zd vz :: aI cI zs 28 gs :: aI cI zg 200 gg :: aI cI zi 100 gi :: aI cI zw 100 gw :: aI cI zo 10000 go :: aI cI ze 100 ge :: aZ cZ zd 100 gd :: X) := pm_D hD 8 [0, 1, 2, 3, 4, 5, 6, 7] rfl rfl rfl
      refine lv_goto (tgt := 40) hx hb dX9_arc_36 (by decide) ?_
      exact W.iret (v := (arcS S t8)) hx hb hr (fun t9 ht9 hW9 => ⟨⟨(arcS S t8), (0, vg, gg, gi, gw, go, ge, gd, vc, vr, vt, vo, vm), rfl, Or.inr ⟨t8, k9, by omega, by omega, e1, e3, rfl, rfl⟩, by rw [ht9]; exact hP, hD⟩, hS.F ht9⟩) hS.2.2 dX9_arc_40
set_option maxHeartbeats 4000000 in
set_option maxRecDepth 100000 in
theorem n_ifLeapt (l : Launch) (D : va_G) (cI cZ cW cJ : ClassId) (A : Nat → Prop) (X : va_W) (mo zs zv zl zk zt zg zi zw zo ze zd : Nat) (vl vh vg vc vr vt vo vp va vb vd vq : Int32) (vm : Bool) (vz : Int64) (hn : Nat) (gs gg gi gw go ge gd : Nat → Int32) (S : KS) (xc xr xd xu xk : Int32) (hS0 : AbsM S gs) (hWf : Wf S) : Met l yX9_ifLeapt wsX9_ifLeapt ({ frames := 7, cells := 0, slots := 0, locals := 165 }) (va_Pc [.ref mo, .int xc, .int xr, .int xd, .int xu, .int xk] (wd D (tyL cI cZ cW cJ) A (oX9 mo zs zv (nI hn) zl zk zt vl vh zg zi zw vg zo ze vc vr vt vo (bI vm) vp va vb vd vq zd vz :: aI cI zs 28 gs :: aI cI zg 200 gg :: aI cI zi 100 gi :: aI cI zw 100 gw :: aI cI zo 10000 go :: aI cI ze 100 ge :: aZ cZ zd 100 gd :: X))) (va_Qi (fun (r : Int32) (u : Int32 × Int32 × (Nat → Int32) × (Nat → Int32) × (Nat → Int32) × (Nat → Int32) × (Nat → Int32) × (Nat → Int32) × Int32 × Int32 × Int32 × Int32 × Bool) => (isCellX xc xr = false ∧ u.1 = 1) ∨ (isCellX xc xr = true ∧ (isSideX xd = false ∨ isRunX xu = false ∨ xk < 0 ∨ 5 ≤ xk) ∧ u.1 = 2) ∨ (isCellX xc xr = true ∧ isSideX xd = true ∧ isRunX xu = true ∧ ∃ k9 : Nat, k9 < 5 ∧ xk = nI k9 ∧ u.1 = 0 ∧ r = leapS S xc.toNatClampNeg xr.toNatClampNeg xd xu.toNatClampNeg k9)) (fun (u : Int32 × Int32 × (Nat → Int32) × (Nat → Int32) × (Nat → Int32) × (Nat → Int32) × (Nat → Int32) × (Nat → Int32) × Int32 × Int32 × Int32 × Int32 × Bool) t => wq D A (oX9 mo zs zv (nI hn) zl zk zt vl u.1 zg zi zw u.2.1 zo ze u.2.2.2.2.2.2.2.2.1 u.2.2.2.2.2.2.2.2.2.1 u.2.2.2.2.2.2.2.2.2.2.1 u.2.2.2.2.2.2.2.2.2.2.2.1 (bI u.2.2.2.2.2.2.2.2.2.2.2.2) vp va vb vd vq zd vz :: aI cI zs 28 gs :: aI cI zg 200 u.2.2.1 :: aI cI zi 100 u.2.2.2.1 :: aI cI zw 100 u.2.2.2.2.1 :: aI cI zo 10000 u.2.2.2.2.2.1 :: aI cI ze 100 u.2.2.2.2.2.2.1 :: aZ cZ zd 100 u.2.2.2.2.2.2.2.1 :: X) t) A) 0 0 A := by
  refine Met.ofW (cc := cX9_ifLeapt) (maxL := 7) (ret := (some .int)) (by decide) rfl ?_
  intro p e s m args below meth c s₁ B hml hv
  obtain ⟨rfl, hsz9, hP, hK, hD, hN⟩ := hv
  have hx := B.exec
  have hb := B.bytes
  have hr := B.returns
  have hts := atoms_spec (ws := wsX9_ifLeapt) B.pre
  have hown : s.vm.findClass RX9 = some m.cls := findClass_of_methodNamed B.named
  have hlocks := B.notSynchronized
  have CF : CallFix p m c cX9_ifLeapt 7 s _ wsX9_ifLeapt RX9 := ⟨hx, hb, hml, hown, hts⟩
  have hA : ∀ q : Nat, s.heap.size ≤ q → A q := hsz9
  have hS : va_S A s.heap s.heap [] := va_S.rf
  have hl := lv_entry ([.ref mo, .int xc, .int xr, .int xd, .int xu, .int xk]) (n := 7) (Nat.le_of_ble_eq_true rfl)
  rw [lg_entry_eq]
  generalize (lg_sl ([.ref mo, .int xc, .int xr, .int xd, .int xu, .int xk]) ++ List.replicate (7 - (lg_sl ([.ref mo, .int xc, .int xr, .int xd, .int xu, .int xk])).length) Slot.unset).toArray = ls at hl ⊢
  have hl : lv_has ls 7 [(0, .ref mo), (1, .int xc), (2, .int xr), (3, .int xd), (4, .int xu), (5, .int xk)] := hl
  show W p l e ({ frames := 7, cells := 0, slots := 0, locals := 165 } : Room) s m (([.ref mo, .int xc, .int xr, .int xd, .int xu, .int xk] : List Value).toArray) below meth c s.heap [] 0 0 (MQ below (va_Qi (fun (r : Int32) (u : Int32 × Int32 × (Nat → Int32) × (Nat → Int32) × (Nat → Int32) × (Nat → Int32) × (Nat → Int32) × (Nat → Int32) × Int32 × Int32 × Int32 × Int32 × Bool) => (isCellX xc xr = false ∧ u.1 = 1) ∨ (isCellX xc xr = true ∧ (isSideX xd = false ∨ isRunX xu = false ∨ xk < 0 ∨ 5 ≤ xk) ∧ u.1 = 2) ∨ (isCellX xc xr = true ∧ isSideX xd = true ∧ isRunX xu = true ∧ ∃ k9 : Nat, k9 < 5 ∧ xk = nI k9 ∧ u.1 = 0 ∧ r = leapS S xc.toNatClampNeg xr.toNatClampNeg xd xu.toNatClampNeg k9)) (fun (u : Int32 × Int32 × (Nat → Int32) × (Nat → Int32) × (Nat → Int32) × (Nat → Int32) × (Nat → Int32) × (Nat → Int32) × Int32 × Int32 × Int32 × Int32 × Bool) t => wq D A (oX9 mo zs zv (nI hn) zl zk zt vl u.1 zg zi zw u.2.1 zo ze u.2.2.2.2.2.2.2.2.1 u.2.2.2.2.2.2.2.2.2.1 u.2.2.2.2.2.2.2.2.2.2.1 u.2.2.2.2.2.2.2.2.2.2.2.1 (bI u.2.2.2.2.2.2.2.2.2.2.2.2) vp va vb vd vq zd vz :: aI cI zs 28 gs :: aI cI zg 200 u.2.2.1 :: aI cI zi 100 u.2.2.2.1 :: aI cI zw 100 u.2.2.2.2.1 :: aI cI zo 10000 u.2.2.2.2.2.1 :: aI cI ze 100 u.2.2.2.2.2.2.1 :: aZ cZ zd 100 u.2.2.2.2.2.2.2.1 :: X) t) A) (([.ref mo, .int xc, .int xr, .int xd, .int xu, .int xk] : List Value).toArray) s 0 0 A) (F0 m 0 ls [])
  refine lv_iload_n hx hb dX9_ifLeapt_0 rfl (lv_at hl 3 rfl) ?_
  refine cS_i CF hK hN hA hS (cut_of 8 [0, 1, 2, 3, 4, 5, 6, 7] hP hD rfl rfl rfl) (n_isSide l D cI cZ cW cJ A (oX9 mo zs zv (nI hn) zl zk zt vl vh zg zi zw vg zo ze vc vr vt vo (bI vm) vp va vb vd vq zd vz :: aI cI zs 28 gs :: aI cI zg 200 gg :: aI cI zi 100 gi :: aI cI zw 100 gw :: aI cI zo 10000 go :: aI cI ze 100 ge :: aZ cZ zd 100 gd :: X) xd) (va_cwS 1 hts gX9_ifLeapt_X9_isSide rfl rfl rfl (by decide +kernel) ⟨Nat.le_of_ble_eq_true rfl, Nat.le_of_ble_eq_true rfl⟩) (As := [.int xd]) (rest := []) rfl hl.1 rfl (Nat.le_of_ble_eq_true rfl) dX9_ifLeapt_1 ⟨Nat.le_of_ble_eq_true rfl, Nat.le_of_ble_eq_true rfl⟩ (fun r_1 _ H locs hq hP hD hS => ?_)
  have hq : r_1 = bI (isSideX xd) := hq
  subst hq
  have hP : va_P D vwCl (oX9 mo zs zv (nI hn) zl zk zt vl vh zg zi zw vg zo ze vc vr vt vo (bI vm) vp va vb vd vq zd vz :: aI cI zs 28 gs :: aI cI zg 200 gg :: aI cI zi 100 gi :: aI cI zw 100 gw :: aI cI zo 10000 go :: aI cI ze 100 ge :: aZ cZ zd 100 gd :: X) H := pm_P hP 8 [0, 1, 2, 3, 4, 5, 6, 7] rfl
  have hD : va_D A (oX9 mo zs zv (nI hn) zl zk zt vl vh zg zi zw vg zo ze vc vr vt vo (bI vm) vp va vb vd vq zd vz :: aI cI zs 28 gs :: aI cI zg 200 gg :: aI cI zi 100 gi :: aI cI zw 100 gw :: aI cI zo 10000 go :: aI cI ze 100 ge :: aZ cZ zd 100 gd :: X) := pm_D hD 8 [0, 1, 2, 3, 4, 5, 6, 7] rfl rfl rfl
  refine lv_if_eq (tgt := 31) hx hb dX9_ifLeapt_4 (by decide) (fun c_4 => ?_) (fun c_4 => ?_)
  · refine lv_iconst (v := 0) hx hb dX9_ifLeapt_31 (by decide) ?_
    refine lv_istore (lv' := [(6, .int 0), (0, .ref mo), (1, .int xc), (2, .int xr), (3, .int xd), (4, .int xu), (5, .int xk)]) hx hb dX9_ifLeapt_32 hl (by decide) rfl (fun ls hl => ?_)
    refine lv_aload_n hx hb dX9_ifLeapt_34 rfl (lv_at hl 1 rfl) ?_
    refine lv_iload_n hx hb dX9_ifLeapt_35 rfl (lv_at hl 2 rfl) ?_
    refine lv_iload_n hx hb dX9_ifLeapt_36 rfl (lv_at hl 3 rfl) ?_
    refine cS_i CF hK hN hA hS (cut_of 8 [0, 1, 2, 3, 4, 5, 6, 7] hP hD rfl rfl rfl) (n_isCell l D cI cZ cW cJ A (oX9 mo zs zv (nI hn) zl zk zt vl vh zg zi zw vg zo ze vc vr vt vo (bI vm) vp va vb vd vq zd vz :: aI cI zs 28 gs :: aI cI zg 200 gg :: aI cI zi 100 gi :: aI cI zw 100 gw :: aI cI zo 10000 go :: aI cI ze 100 ge :: aZ cZ zd 100 gd :: X) xc xr) (va_cwS 2 hts gX9_ifLeapt_X9_isCell rfl rfl rfl (by decide +kernel) ⟨Nat.le_of_ble_eq_true rfl, Nat.le_of_ble_eq_true rfl⟩) (As := [.int xc, .int xr]) (rest := [.ref mo]) rfl hl.1 rfl (Nat.le_of_ble_eq_true rfl) dX9_ifLeapt_37 ⟨Nat.le_of_ble_eq_true rfl, Nat.le_of_ble_eq_true rfl⟩ (fun r_37 _ H locs hq hP hD hS => ?_)
    have hq : r_37 = bI (isCellX xc xr) := hq
    subst hq
    have hP : va_P D vwCl (oX9 mo zs zv (nI hn) zl zk zt vl vh zg zi zw vg zo ze vc vr vt vo (bI vm) vp va vb vd vq zd vz :: aI cI zs 28 gs :: aI cI zg 200 gg :: aI cI zi 100 gi :: aI cI zw 100 gw :: aI cI zo 10000 go :: aI cI ze 100 ge :: aZ cZ zd 100 gd :: X) H := pm_P hP 8 [0, 1, 2, 3, 4, 5, 6, 7] rfl
    have hD : va_D A (oX9 mo zs zv (nI hn) zl zk zt vl vh zg zi zw vg zo ze vc vr vt vo (bI vm) vp va vb vd vq zd vz :: aI cI zs 28 gs :: aI cI zg 200 gg :: aI cI zi 100 gi :: aI cI zw 100 gw :: aI cI zo 10000 go :: aI cI ze 100 ge :: aZ cZ zd 100 gd :: X) := pm_D hD 8 [0, 1, 2, 3, 4, 5, 6, 7] rfl rfl rfl
    refine lv_if_ne (tgt := 47) hx hb dX9_ifLeapt_40 (by decide) (fun c_40 => ?_) (fun c_40 => ?_)
    · refine lv_iload hx hb dX9_ifLeapt_47 (lv_at hl 0 rfl) ?_
      have c_49 : (0 : Int32) = 0 := by decide
      refine lv_if_ne (tgt := 56) hx hb dX9_ifLeapt_49 (by decide) (fun q => absurd c_49 q) (fun _ => ?_)
      refine lv_iconst (v := 2) hx hb dX9_ifLeapt_52 (by decide) ?_
      refine lv_goto (tgt := 57) hx hb dX9_ifLeapt_53 (by decide) ?_
      refine cV_i CF hK hN hA hS (cut_of 8 [0, 1, 2, 3, 4, 5, 6, 7] hP hD rfl rfl rfl) (n_holds l D cI cZ cW cJ A (aI cI zs 28 gs :: aI cI zg 200 gg :: aI cI zi 100 gi :: aI cI zw 100 gw :: aI cI zo 10000 go :: aI cI ze 100 ge :: aZ cZ zd 100 gd :: X) mo zs zv zl zk zt zg zi zw zo ze zd (nI hn) vl vh vg vc vr vt vo vp va vb vd vq vm vz 2) (cwV 1 hts gX9_ifLeapt_X9_holds rfl rfl rfl (by decide +kernel) ⟨Nat.le_of_ble_eq_true rfl, Nat.le_of_ble_eq_true rfl⟩) (As := [.int 2]) (rest := []) (ci := 9) (q0 := 0) rfl rfl rfl hl.1 rfl (Nat.le_of_ble_eq_true rfl) dX9_ifLeapt_57 ⟨Nat.le_of_ble_eq_true rfl, Nat.le_of_ble_eq_true rfl⟩ (fun r_57 _ H locs hq hP hD hS => ?_)
      have hq : r_57 = bI (decide ((2 : Int32) = 0)) := hq
      subst hq
      have hP : va_P D vwCl (oX9 mo zs zv (nI hn) zl zk zt vl 2 zg zi zw vg zo ze vc vr vt vo (bI vm) vp va vb vd vq zd vz :: aI cI zs 28 gs :: aI cI zg 200 gg :: aI cI zi 100 gi :: aI cI zw 100 gw :: aI cI zo 10000 go :: aI cI ze 100 ge :: aZ cZ zd 100 gd :: X) H := pm_P hP 8 [0, 1, 2, 3, 4, 5, 6, 7] rfl
      have hD : va_D A (oX9 mo zs zv (nI hn) zl zk zt vl 2 zg zi zw vg zo ze vc vr vt vo (bI vm) vp va vb vd vq zd vz :: aI cI zs 28 gs :: aI cI zg 200 gg :: aI cI zi 100 gi :: aI cI zw 100 gw :: aI cI zo 10000 go :: aI cI ze 100 ge :: aZ cZ zd 100 gd :: X) := pm_D hD 8 [0, 1, 2, 3, 4, 5, 6, 7] rfl rfl rfl
      refine top_i (y := 0) (by decide) ?_
      have c_60 : (0 : Int32) = 0 := by decide
      refine lv_if_eq (tgt := 77) hx hb dX9_ifLeapt_60 (by decide) (fun _ => ?_) (fun q => absurd c_60 q)
      refine lv_iconst (v := 0) hx hb dX9_ifLeapt_77 (by decide) ?_
      exact W.iret (v := 0) hx hb hr (fun t9 ht9 hW9 => ⟨⟨0, (2, vg, gg, gi, gw, go, ge, gd, vc, vr, vt, vo, vm), rfl, Or.inr (Or.inl ⟨bt_c c_40, Or.inl (bf_c c_4), rfl⟩), by rw [ht9]; exact hP, hD⟩, hS.F ht9⟩) hS.2.2 dX9_ifLeapt_78
    · refine lv_iconst (v := 1) hx hb dX9_ifLeapt_43 (by decide) ?_
      refine lv_goto (tgt := 57) hx hb dX9_ifLeapt_44 (by decide) ?_
      refine cV_i CF hK hN hA hS (cut_of 8 [0, 1, 2, 3, 4, 5, 6, 7] hP hD rfl rfl rfl) (n_holds l D cI cZ cW cJ A (aI cI zs 28 gs :: aI cI zg 200 gg :: aI cI zi 100 gi :: aI cI zw 100 gw :: aI cI zo 10000 go :: aI cI ze 100 ge :: aZ cZ zd 100 gd :: X) mo zs zv zl zk zt zg zi zw zo ze zd (nI hn) vl vh vg vc vr vt vo vp va vb vd vq vm vz 1) (cwV 1 hts gX9_ifLeapt_X9_holds rfl rfl rfl (by decide +kernel) ⟨Nat.le_of_ble_eq_true rfl, Nat.le_of_ble_eq_true rfl⟩) (As := [.int 1]) (rest := []) (ci := 9) (q0 := 0) rfl rfl rfl hl.1 rfl (Nat.le_of_ble_eq_true rfl) dX9_ifLeapt_57 ⟨Nat.le_of_ble_eq_true rfl, Nat.le_of_ble_eq_true rfl⟩ (fun r_57 _ H locs hq hP hD hS => ?_)
      have hq : r_57 = bI (decide ((1 : Int32) = 0)) := hq
      subst hq
      have hP : va_P D vwCl (oX9 mo zs zv (nI hn) zl zk zt vl 1 zg zi zw vg zo ze vc vr vt vo (bI vm) vp va vb vd vq zd vz :: aI cI zs 28 gs :: aI cI zg 200 gg :: aI cI zi 100 gi :: aI cI zw 100 gw :: aI cI zo 10000 go :: aI cI ze 100 ge :: aZ cZ zd 100 gd :: X) H := pm_P hP 8 [0, 1, 2, 3, 4, 5, 6, 7] rfl
      have hD : va_D A (oX9 mo zs zv (nI hn) zl zk zt vl 1 zg zi zw vg zo ze vc vr vt vo (bI vm) vp va vb vd vq zd vz :: aI cI zs 28 gs :: aI cI zg 200 gg :: aI cI zi 100 gi :: aI cI zw 100 gw :: aI cI zo 10000 go :: aI cI ze 100 ge :: aZ cZ zd 100 gd :: X) := pm_D hD 8 [0, 1, 2, 3, 4, 5, 6, 7] rfl rfl rfl
      refine top_i (y := 0) (by decide) ?_
      have c_60 : (0 : Int32) = 0 := by decide
      refine lv_if_eq (tgt := 77) hx hb dX9_ifLeapt_60 (by decide) (fun _ => ?_) (fun q => absurd c_60 q)
      refine lv_iconst (v := 0) hx hb dX9_ifLeapt_77 (by decide) ?_
      exact W.iret (v := 0) hx hb hr (fun t9 ht9 hW9 => ⟨⟨0, (1, vg, gg, gi, gw, go, ge, gd, vc, vr, vt, vo, vm), rfl, Or.inl ⟨bf_c c_40, rfl⟩, by rw [ht9]; exact hP, hD⟩, hS.F ht9⟩) hS.2.2 dX9_ifLeapt_78
  · refine lv_iload hx hb dX9_ifLeapt_7 (lv_at hl 4 rfl) ?_
    refine lv_iconst (v := 0) hx hb dX9_ifLeapt_9 (by decide) ?_
    refine lv_iconst (v := 3) hx hb dX9_ifLeapt_10 (by decide) ?_
    refine cS_i CF hK hN hA hS (cut_of 8 [0, 1, 2, 3, 4, 5, 6, 7] hP hD rfl rfl rfl) (n_in l D cI cZ cW cJ A (oX9 mo zs zv (nI hn) zl zk zt vl vh zg zi zw vg zo ze vc vr vt vo (bI vm) vp va vb vd vq zd vz :: aI cI zs 28 gs :: aI cI zg 200 gg :: aI cI zi 100 gi :: aI cI zw 100 gw :: aI cI zo 10000 go :: aI cI ze 100 ge :: aZ cZ zd 100 gd :: X) xu 0 3) (va_cwS 3 hts gX9_ifLeapt_X9_in rfl rfl rfl (by decide +kernel) ⟨Nat.le_of_ble_eq_true rfl, Nat.le_of_ble_eq_true rfl⟩) (As := [.int xu, .int 0, .int 3]) (rest := []) rfl hl.1 rfl (Nat.le_of_ble_eq_true rfl) dX9_ifLeapt_11 ⟨Nat.le_of_ble_eq_true rfl, Nat.le_of_ble_eq_true rfl⟩ (fun r_11 _ H locs hq hP hD hS => ?_)
    have hq : r_11 = bI (inX xu 0 3) := hq
    subst hq
    have hP : va_P D vwCl (oX9 mo zs zv (nI hn) zl zk zt vl vh zg zi zw vg zo ze vc vr vt vo (bI vm) vp va vb vd vq zd vz :: aI cI zs 28 gs :: aI cI zg 200 gg :: aI cI zi 100 gi :: aI cI zw 100 gw :: aI cI zo 10000 go :: aI cI ze 100 ge :: aZ cZ zd 100 gd :: X) H := pm_P hP 8 [0, 1, 2, 3, 4, 5, 6, 7] rfl
    have hD : va_D A (oX9 mo zs zv (nI hn) zl zk zt vl vh zg zi zw vg zo ze vc vr vt vo (bI vm) vp va vb vd vq zd vz :: aI cI zs 28 gs :: aI cI zg 200 gg :: aI cI zi 100 gi :: aI cI zw 100 gw :: aI cI zo 10000 go :: aI cI ze 100 ge :: aZ cZ zd 100 gd :: X) := pm_D hD 8 [0, 1, 2, 3, 4, 5, 6, 7] rfl rfl rfl
    refine lv_if_eq (tgt := 31) hx hb dX9_ifLeapt_14 (by decide) (fun c_14 => ?_) (fun c_14 => ?_)
    · refine lv_iconst (v := 0) hx hb dX9_ifLeapt_31 (by decide) ?_
      refine lv_istore (lv' := [(6, .int 0), (0, .ref mo), (1, .int xc), (2, .int xr), (3, .int xd), (4, .int xu), (5, .int xk)]) hx hb dX9_ifLeapt_32 hl (by decide) rfl (fun ls hl => ?_)
      refine lv_aload_n hx hb dX9_ifLeapt_34 rfl (lv_at hl 1 rfl) ?_
      refine lv_iload_n hx hb dX9_ifLeapt_35 rfl (lv_at hl 2 rfl) ?_
      refine lv_iload_n hx hb dX9_ifLeapt_36 rfl (lv_at hl 3 rfl) ?_
      refine cS_i CF hK hN hA hS (cut_of 8 [0, 1, 2, 3, 4, 5, 6, 7] hP hD rfl rfl rfl) (n_isCell l D cI cZ cW cJ A (oX9 mo zs zv (nI hn) zl zk zt vl vh zg zi zw vg zo ze vc vr vt vo (bI vm) vp va vb vd vq zd vz :: aI cI zs 28 gs :: aI cI zg 200 gg :: aI cI zi 100 gi :: aI cI zw 100 gw :: aI cI zo 10000 go :: aI cI ze 100 ge :: aZ cZ zd 100 gd :: X) xc xr) (va_cwS 2 hts gX9_ifLeapt_X9_isCell rfl rfl rfl (by decide +kernel) ⟨Nat.le_of_ble_eq_true rfl, Nat.le_of_ble_eq_true rfl⟩) (As := [.int xc, .int xr]) (rest := [.ref mo]) rfl hl.1 rfl (Nat.le_of_ble_eq_true rfl) dX9_ifLeapt_37 ⟨Nat.le_of_ble_eq_true rfl, Nat.le_of_ble_eq_true rfl⟩ (fun r_37 _ H locs hq hP hD hS => ?_)
      have hq : r_37 = bI (isCellX xc xr) := hq
      subst hq
      have hP : va_P D vwCl (oX9 mo zs zv (nI hn) zl zk zt vl vh zg zi zw vg zo ze vc vr vt vo (bI vm) vp va vb vd vq zd vz :: aI cI zs 28 gs :: aI cI zg 200 gg :: aI cI zi 100 gi :: aI cI zw 100 gw :: aI cI zo 10000 go :: aI cI ze 100 ge :: aZ cZ zd 100 gd :: X) H := pm_P hP 8 [0, 1, 2, 3, 4, 5, 6, 7] rfl
      have hD : va_D A (oX9 mo zs zv (nI hn) zl zk zt vl vh zg zi zw vg zo ze vc vr vt vo (bI vm) vp va vb vd vq zd vz :: aI cI zs 28 gs :: aI cI zg 200 gg :: aI cI zi 100 gi :: aI cI zw 100 gw :: aI cI zo 10000 go :: aI cI ze 100 ge :: aZ cZ zd 100 gd :: X) := pm_D hD 8 [0, 1, 2, 3, 4, 5, 6, 7] rfl rfl rfl
      refine lv_if_ne (tgt := 47) hx hb dX9_ifLeapt_40 (by decide) (fun c_40 => ?_) (fun c_40 => ?_)
      · refine lv_iload hx hb dX9_ifLeapt_47 (lv_at hl 0 rfl) ?_
        have c_49 : (0 : Int32) = 0 := by decide
        refine lv_if_ne (tgt := 56) hx hb dX9_ifLeapt_49 (by decide) (fun q => absurd c_49 q) (fun _ => ?_)
        refine lv_iconst (v := 2) hx hb dX9_ifLeapt_52 (by decide) ?_
        refine lv_goto (tgt := 57) hx hb dX9_ifLeapt_53 (by decide) ?_
        refine cV_i CF hK hN hA hS (cut_of 8 [0, 1, 2, 3, 4, 5, 6, 7] hP hD rfl rfl rfl) (n_holds l D cI cZ cW cJ A (aI cI zs 28 gs :: aI cI zg 200 gg :: aI cI zi 100 gi :: aI cI zw 100 gw :: aI cI zo 10000 go :: aI cI ze 100 ge :: aZ cZ zd 100 gd :: X) mo zs zv zl zk zt zg zi zw zo ze zd (nI hn) vl vh vg vc vr vt vo vp va vb vd vq vm vz 2) (cwV 1 hts gX9_ifLeapt_X9_holds rfl rfl rfl (by decide +kernel) ⟨Nat.le_of_ble_eq_true rfl, Nat.le_of_ble_eq_true rfl⟩) (As := [.int 2]) (rest := []) (ci := 9) (q0 := 0) rfl rfl rfl hl.1 rfl (Nat.le_of_ble_eq_true rfl) dX9_ifLeapt_57 ⟨Nat.le_of_ble_eq_true rfl, Nat.le_of_ble_eq_true rfl⟩ (fun r_57 _ H locs hq hP hD hS => ?_)
        have hq : r_57 = bI (decide ((2 : Int32) = 0)) := hq
        subst hq
        have hP : va_P D vwCl (oX9 mo zs zv (nI hn) zl zk zt vl 2 zg zi zw vg zo ze vc vr vt vo (bI vm) vp va vb vd vq zd vz :: aI cI zs 28 gs :: aI cI zg 200 gg :: aI cI zi 100 gi :: aI cI zw 100 gw :: aI cI zo 10000 go :: aI cI ze 100 ge :: aZ cZ zd 100 gd :: X) H := pm_P hP 8 [0, 1, 2, 3, 4, 5, 6, 7] rfl
        have hD : va_D A (oX9 mo zs zv (nI hn) zl zk zt vl 2 zg zi zw vg zo ze vc vr vt vo (bI vm) vp va vb vd vq zd vz :: aI cI zs 28 gs :: aI cI zg 200 gg :: aI cI zi 100 gi :: aI cI zw 100 gw :: aI cI zo 10000 go :: aI cI ze 100 ge :: aZ cZ zd 100 gd :: X) := pm_D hD 8 [0, 1, 2, 3, 4, 5, 6, 7] rfl rfl rfl
        refine top_i (y := 0) (by decide) ?_
        have c_60 : (0 : Int32) = 0 := by decide
        refine lv_if_eq (tgt := 77) hx hb dX9_ifLeapt_60 (by decide) (fun _ => ?_) (fun q => absurd c_60 q)
        refine lv_iconst (v := 0) hx hb dX9_ifLeapt_77 (by decide) ?_
        exact W.iret (v := 0) hx hb hr (fun t9 ht9 hW9 => ⟨⟨0, (2, vg, gg, gi, gw, go, ge, gd, vc, vr, vt, vo, vm), rfl, Or.inr (Or.inl ⟨bt_c c_40, Or.inr (Or.inl (bf_c c_14)), rfl⟩), by rw [ht9]; exact hP, hD⟩, hS.F ht9⟩) hS.2.2 dX9_ifLeapt_78
      · refine lv_iconst (v := 1) hx hb dX9_ifLeapt_43 (by decide) ?_
        refine lv_goto (tgt := 57) hx hb dX9_ifLeapt_44 (by decide) ?_
        refine cV_i CF hK hN hA hS (cut_of 8 [0, 1, 2, 3, 4, 5, 6, 7] hP hD rfl rfl rfl) (n_holds l D cI cZ cW cJ A (aI cI zs 28 gs :: aI cI zg 200 gg :: aI cI zi 100 gi :: aI cI zw 100 gw :: aI cI zo 10000 go :: aI cI ze 100 ge :: aZ cZ zd 100 gd :: X) mo zs zv zl zk zt zg zi zw zo ze zd (nI hn) vl vh vg vc vr vt vo vp va vb vd vq vm vz 1) (cwV 1 hts gX9_ifLeapt_X9_holds rfl rfl rfl (by decide +kernel) ⟨Nat.le_of_ble_eq_true rfl, Nat.le_of_ble_eq_true rfl⟩) (As := [.int 1]) (rest := []) (ci := 9) (q0 := 0) rfl rfl rfl hl.1 rfl (Nat.le_of_ble_eq_true rfl) dX9_ifLeapt_57 ⟨Nat.le_of_ble_eq_true rfl, Nat.le_of_ble_eq_true rfl⟩ (fun r_57 _ H locs hq hP hD hS => ?_)
        have hq : r_57 = bI (decide ((1 : Int32) = 0)) := hq
        subst hq
        have hP : va_P D vwCl (oX9 mo zs zv (nI hn) zl zk zt vl 1 zg zi zw vg zo ze vc vr vt vo (bI vm) vp va vb vd vq zd vz :: aI cI zs 28 gs :: aI cI zg 200 gg :: aI cI zi 100 gi :: aI cI zw 100 gw :: aI cI zo 10000 go :: aI cI ze 100 ge :: aZ cZ zd 100 gd :: X) H := pm_P hP 8 [0, 1, 2, 3, 4, 5, 6, 7] rfl
        have hD : va_D A (oX9 mo zs zv (nI hn) zl zk zt vl 1 zg zi zw vg zo ze vc vr vt vo (bI vm) vp va vb vd vq zd vz :: aI cI zs 28 gs :: aI cI zg 200 gg :: aI cI zi 100 gi :: aI cI zw 100 gw :: aI cI zo 10000 go :: aI cI ze 100 ge :: aZ cZ zd 100 gd :: X) := pm_D hD 8 [0, 1, 2, 3, 4, 5, 6, 7] rfl rfl rfl
        refine top_i (y := 0) (by decide) ?_
        have c_60 : (0 : Int32) = 0 := by decide
        refine lv_if_eq (tgt := 77) hx hb dX9_ifLeapt_60 (by decide) (fun _ => ?_) (fun q => absurd c_60 q)
        refine lv_iconst (v := 0) hx hb dX9_ifLeapt_77 (by decide) ?_
        exact W.iret (v := 0) hx hb hr (fun t9 ht9 hW9 => ⟨⟨0, (1, vg, gg, gi, gw, go, ge, gd, vc, vr, vt, vo, vm), rfl, Or.inl ⟨bf_c c_40, rfl⟩, by rw [ht9]; exact hP, hD⟩, hS.F ht9⟩) hS.2.2 dX9_ifLeapt_78
    · refine lv_iload hx hb dX9_ifLeapt_17 (lv_at hl 5 rfl) ?_
      refine lv_iconst (v := 0) hx hb dX9_ifLeapt_19 (by decide) ?_
      refine lv_iconst (v := 4) hx hb dX9_ifLeapt_20 (by decide) ?_
      refine cS_i CF hK hN hA hS (cut_of 8 [0, 1, 2, 3, 4, 5, 6, 7] hP hD rfl rfl rfl) (n_in l D cI cZ cW cJ A (oX9 mo zs zv (nI hn) zl zk zt vl vh zg zi zw vg zo ze vc vr vt vo (bI vm) vp va vb vd vq zd vz :: aI cI zs 28 gs :: aI cI zg 200 gg :: aI cI zi 100 gi :: aI cI zw 100 gw :: aI cI zo 10000 go :: aI cI ze 100 ge :: aZ cZ zd 100 gd :: X) xk 0 4) (va_cwS 3 hts gX9_ifLeapt_X9_in rfl rfl rfl (by decide +kernel) ⟨Nat.le_of_ble_eq_true rfl, Nat.le_of_ble_eq_true rfl⟩) (As := [.int xk, .int 0, .int 4]) (rest := []) rfl hl.1 rfl (Nat.le_of_ble_eq_true rfl) dX9_ifLeapt_21 ⟨Nat.le_of_ble_eq_true rfl, Nat.le_of_ble_eq_true rfl⟩ (fun r_21 _ H locs hq hP hD hS => ?_)
      have hq : r_21 = bI (inX xk 0 4) := hq
      subst hq
      have hP : va_P D vwCl (oX9 mo zs zv (nI hn) zl zk zt vl vh zg zi zw vg zo ze vc vr vt vo (bI vm) vp va vb vd vq zd vz :: aI cI zs 28 gs :: aI cI zg 200 gg :: aI cI zi 100 gi :: aI cI zw 100 gw :: aI cI zo 10000 go :: aI cI ze 100 ge :: aZ cZ zd 100 gd :: X) H := pm_P hP 8 [0, 1, 2, 3, 4, 5, 6, 7] rfl
      have hD : va_D A (oX9 mo zs zv (nI hn) zl zk zt vl vh zg zi zw vg zo ze vc vr vt vo (bI vm) vp va vb vd vq zd vz :: aI cI zs 28 gs :: aI cI zg 200 gg :: aI cI zi 100 gi :: aI cI zw 100 gw :: aI cI zo 10000 go :: aI cI ze 100 ge :: aZ cZ zd 100 gd :: X) := pm_D hD 8 [0, 1, 2, 3, 4, 5, 6, 7] rfl rfl rfl
      refine lv_if_eq (tgt := 31) hx hb dX9_ifLeapt_24 (by decide) (fun c_24 => ?_) (fun c_24 => ?_)
      · refine lv_iconst (v := 0) hx hb dX9_ifLeapt_31 (by decide) ?_
        refine lv_istore (lv' := [(6, .int 0), (0, .ref mo), (1, .int xc), (2, .int xr), (3, .int xd), (4, .int xu), (5, .int xk)]) hx hb dX9_ifLeapt_32 hl (by decide) rfl (fun ls hl => ?_)
        refine lv_aload_n hx hb dX9_ifLeapt_34 rfl (lv_at hl 1 rfl) ?_
        refine lv_iload_n hx hb dX9_ifLeapt_35 rfl (lv_at hl 2 rfl) ?_
        refine lv_iload_n hx hb dX9_ifLeapt_36 rfl (lv_at hl 3 rfl) ?_
        refine cS_i CF hK hN hA hS (cut_of 8 [0, 1, 2, 3, 4, 5, 6, 7] hP hD rfl rfl rfl) (n_isCell l D cI cZ cW cJ A (oX9 mo zs zv (nI hn) zl zk zt vl vh zg zi zw vg zo ze vc vr vt vo (bI vm) vp va vb vd vq zd vz :: aI cI zs 28 gs :: aI cI zg 200 gg :: aI cI zi 100 gi :: aI cI zw 100 gw :: aI cI zo 10000 go :: aI cI ze 100 ge :: aZ cZ zd 100 gd :: X) xc xr) (va_cwS 2 hts gX9_ifLeapt_X9_isCell rfl rfl rfl (by decide +kernel) ⟨Nat.le_of_ble_eq_true rfl, Nat.le_of_ble_eq_true rfl⟩) (As := [.int xc, .int xr]) (rest := [.ref mo]) rfl hl.1 rfl (Nat.le_of_ble_eq_true rfl) dX9_ifLeapt_37 ⟨Nat.le_of_ble_eq_true rfl, Nat.le_of_ble_eq_true rfl⟩ (fun r_37 _ H locs hq hP hD hS => ?_)
        have hq : r_37 = bI (isCellX xc xr) := hq
        subst hq
        have hP : va_P D vwCl (oX9 mo zs zv (nI hn) zl zk zt vl vh zg zi zw vg zo ze vc vr vt vo (bI vm) vp va vb vd vq zd vz :: aI cI zs 28 gs :: aI cI zg 200 gg :: aI cI zi 100 gi :: aI cI zw 100 gw :: aI cI zo 10000 go :: aI cI ze 100 ge :: aZ cZ zd 100 gd :: X) H := pm_P hP 8 [0, 1, 2, 3, 4, 5, 6, 7] rfl
        have hD : va_D A (oX9 mo zs zv (nI hn) zl zk zt vl vh zg zi zw vg zo ze vc vr vt vo (bI vm) vp va vb vd vq zd vz :: aI cI zs 28 gs :: aI cI zg 200 gg :: aI cI zi 100 gi :: aI cI zw 100 gw :: aI cI zo 10000 go :: aI cI ze 100 ge :: aZ cZ zd 100 gd :: X) := pm_D hD 8 [0, 1, 2, 3, 4, 5, 6, 7] rfl rfl rfl
        refine lv_if_ne (tgt := 47) hx hb dX9_ifLeapt_40 (by decide) (fun c_40 => ?_) (fun c_40 => ?_)
        · refine lv_iload hx hb dX9_ifLeapt_47 (lv_at hl 0 rfl) ?_
          have c_49 : (0 : Int32) = 0 := by decide
          refine lv_if_ne (tgt := 56) hx hb dX9_ifLeapt_49 (by decide) (fun q => absurd c_49 q) (fun _ => ?_)
          refine lv_iconst (v := 2) hx hb dX9_ifLeapt_52 (by decide) ?_
          refine lv_goto (tgt := 57) hx hb dX9_ifLeapt_53 (by decide) ?_
          refine cV_i CF hK hN hA hS (cut_of 8 [0, 1, 2, 3, 4, 5, 6, 7] hP hD rfl rfl rfl) (n_holds l D cI cZ cW cJ A (aI cI zs 28 gs :: aI cI zg 200 gg :: aI cI zi 100 gi :: aI cI zw 100 gw :: aI cI zo 10000 go :: aI cI ze 100 ge :: aZ cZ zd 100 gd :: X) mo zs zv zl zk zt zg zi zw zo ze zd (nI hn) vl vh vg vc vr vt vo vp va vb vd vq vm vz 2) (cwV 1 hts gX9_ifLeapt_X9_holds rfl rfl rfl (by decide +kernel) ⟨Nat.le_of_ble_eq_true rfl, Nat.le_of_ble_eq_true rfl⟩) (As := [.int 2]) (rest := []) (ci := 9) (q0 := 0) rfl rfl rfl hl.1 rfl (Nat.le_of_ble_eq_true rfl) dX9_ifLeapt_57 ⟨Nat.le_of_ble_eq_true rfl, Nat.le_of_ble_eq_true rfl⟩ (fun r_57 _ H locs hq hP hD hS => ?_)
          have hq : r_57 = bI (decide ((2 : Int32) = 0)) := hq
          subst hq
          have hP : va_P D vwCl (oX9 mo zs zv (nI hn) zl zk zt vl 2 zg zi zw vg zo ze vc vr vt vo (bI vm) vp va vb vd vq zd vz :: aI cI zs 28 gs :: aI cI zg 200 gg :: aI cI zi 100 gi :: aI cI zw 100 gw :: aI cI zo 10000 go :: aI cI ze 100 ge :: aZ cZ zd 100 gd :: X) H := pm_P hP 8 [0, 1, 2, 3, 4, 5, 6, 7] rfl
          have hD : va_D A (oX9 mo zs zv (nI hn) zl zk zt vl 2 zg zi zw vg zo ze vc vr vt vo (bI vm) vp va vb vd vq zd vz :: aI cI zs 28 gs :: aI cI zg 200 gg :: aI cI zi 100 gi :: aI cI zw 100 gw :: aI cI zo 10000 go :: aI cI ze 100 ge :: aZ cZ zd 100 gd :: X) := pm_D hD 8 [0, 1, 2, 3, 4, 5, 6, 7] rfl rfl rfl
          refine top_i (y := 0) (by decide) ?_
          have c_60 : (0 : Int32) = 0 := by decide
          refine lv_if_eq (tgt := 77) hx hb dX9_ifLeapt_60 (by decide) (fun _ => ?_) (fun q => absurd c_60 q)
          refine lv_iconst (v := 0) hx hb dX9_ifLeapt_77 (by decide) ?_
          exact W.iret (v := 0) hx hb hr (fun t9 ht9 hW9 => ⟨⟨0, (2, vg, gg, gi, gw, go, ge, gd, vc, vr, vt, vo, vm), rfl, Or.inr (Or.inl ⟨bt_c c_40, Or.inr (Or.inr (out_rng (k := 4) (by decide) (bf_c c_24))), rfl⟩), by rw [ht9]; exact hP, hD⟩, hS.F ht9⟩) hS.2.2 dX9_ifLeapt_78
        · refine lv_iconst (v := 1) hx hb dX9_ifLeapt_43 (by decide) ?_
          refine lv_goto (tgt := 57) hx hb dX9_ifLeapt_44 (by decide) ?_
          refine cV_i CF hK hN hA hS (cut_of 8 [0, 1, 2, 3, 4, 5, 6, 7] hP hD rfl rfl rfl) (n_holds l D cI cZ cW cJ A (aI cI zs 28 gs :: aI cI zg 200 gg :: aI cI zi 100 gi :: aI cI zw 100 gw :: aI cI zo 10000 go :: aI cI ze 100 ge :: aZ cZ zd 100 gd :: X) mo zs zv zl zk zt zg zi zw zo ze zd (nI hn) vl vh vg vc vr vt vo vp va vb vd vq vm vz 1) (cwV 1 hts gX9_ifLeapt_X9_holds rfl rfl rfl (by decide +kernel) ⟨Nat.le_of_ble_eq_true rfl, Nat.le_of_ble_eq_true rfl⟩) (As := [.int 1]) (rest := []) (ci := 9) (q0 := 0) rfl rfl rfl hl.1 rfl (Nat.le_of_ble_eq_true rfl) dX9_ifLeapt_57 ⟨Nat.le_of_ble_eq_true rfl, Nat.le_of_ble_eq_true rfl⟩ (fun r_57 _ H locs hq hP hD hS => ?_)
          have hq : r_57 = bI (decide ((1 : Int32) = 0)) := hq
          subst hq
          have hP : va_P D vwCl (oX9 mo zs zv (nI hn) zl zk zt vl 1 zg zi zw vg zo ze vc vr vt vo (bI vm) vp va vb vd vq zd vz :: aI cI zs 28 gs :: aI cI zg 200 gg :: aI cI zi 100 gi :: aI cI zw 100 gw :: aI cI zo 10000 go :: aI cI ze 100 ge :: aZ cZ zd 100 gd :: X) H := pm_P hP 8 [0, 1, 2, 3, 4, 5, 6, 7] rfl
          have hD : va_D A (oX9 mo zs zv (nI hn) zl zk zt vl 1 zg zi zw vg zo ze vc vr vt vo (bI vm) vp va vb vd vq zd vz :: aI cI zs 28 gs :: aI cI zg 200 gg :: aI cI zi 100 gi :: aI cI zw 100 gw :: aI cI zo 10000 go :: aI cI ze 100 ge :: aZ cZ zd 100 gd :: X) := pm_D hD 8 [0, 1, 2, 3, 4, 5, 6, 7] rfl rfl rfl
          refine top_i (y := 0) (by decide) ?_
          have c_60 : (0 : Int32) = 0 := by decide
          refine lv_if_eq (tgt := 77) hx hb dX9_ifLeapt_60 (by decide) (fun _ => ?_) (fun q => absurd c_60 q)
          refine lv_iconst (v := 0) hx hb dX9_ifLeapt_77 (by decide) ?_
          exact W.iret (v := 0) hx hb hr (fun t9 ht9 hW9 => ⟨⟨0, (1, vg, gg, gi, gw, go, ge, gd, vc, vr, vt, vo, vm), rfl, Or.inl ⟨bf_c c_40, rfl⟩, by rw [ht9]; exact hP, hD⟩, hS.F ht9⟩) hS.2.2 dX9_ifLeapt_78
      · refine lv_iconst (v := 1) hx hb dX9_ifLeapt_27 (by decide) ?_
        refine lv_goto (tgt := 32) hx hb dX9_ifLeapt_28 (by decide) ?_
        refine lv_istore (lv' := [(6, .int 1), (0, .ref mo), (1, .int xc), (2, .int xr), (3, .int xd), (4, .int xu), (5, .int xk)]) hx hb dX9_ifLeapt_32 hl (by decide) rfl (fun ls hl => ?_)
        refine lv_aload_n hx hb dX9_ifLeapt_34 rfl (lv_at hl 1 rfl) ?_
        refine lv_iload_n hx hb dX9_ifLeapt_35 rfl (lv_at hl 2 rfl) ?_
        refine lv_iload_n hx hb dX9_ifLeapt_36 rfl (lv_at hl 3 rfl) ?_
        refine cS_i CF hK hN hA hS (cut_of 8 [0, 1, 2, 3, 4, 5, 6, 7] hP hD rfl rfl rfl) (n_isCell l D cI cZ cW cJ A (oX9 mo zs zv (nI hn) zl zk zt vl vh zg zi zw vg zo ze vc vr vt vo (bI vm) vp va vb vd vq zd vz :: aI cI zs 28 gs :: aI cI zg 200 gg :: aI cI zi 100 gi :: aI cI zw 100 gw :: aI cI zo 10000 go :: aI cI ze 100 ge :: aZ cZ zd 100 gd :: X) xc xr) (va_cwS 2 hts gX9_ifLeapt_X9_isCell rfl rfl rfl (by decide +kernel) ⟨Nat.le_of_ble_eq_true rfl, Nat.le_of_ble_eq_true rfl⟩) (As := [.int xc, .int xr]) (rest := [.ref mo]) rfl hl.1 rfl (Nat.le_of_ble_eq_true rfl) dX9_ifLeapt_37 ⟨Nat.le_of_ble_eq_true rfl, Nat.le_of_ble_eq_true rfl⟩ (fun r_37 _ H locs hq hP hD hS => ?_)
        have hq : r_37 = bI (isCellX xc xr) := hq
        subst hq
        have hP : va_P D vwCl (oX9 mo zs zv (nI hn) zl zk zt vl vh zg zi zw vg zo ze vc vr vt vo (bI vm) vp va vb vd vq zd vz :: aI cI zs 28 gs :: aI cI zg 200 gg :: aI cI zi 100 gi :: aI cI zw 100 gw :: aI cI zo 10000 go :: aI cI ze 100 ge :: aZ cZ zd 100 gd :: X) H := pm_P hP 8 [0, 1, 2, 3, 4, 5, 6, 7] rfl
        have hD : va_D A (oX9 mo zs zv (nI hn) zl zk zt vl vh zg zi zw vg zo ze vc vr vt vo (bI vm) vp va vb vd vq zd vz :: aI cI zs 28 gs :: aI cI zg 200 gg :: aI cI zi 100 gi :: aI cI zw 100 gw :: aI cI zo 10000 go :: aI cI ze 100 ge :: aZ cZ zd 100 gd :: X) := pm_D hD 8 [0, 1, 2, 3, 4, 5, 6, 7] rfl rfl rfl
        refine lv_if_ne (tgt := 47) hx hb dX9_ifLeapt_40 (by decide) (fun c_40 => ?_) (fun c_40 => ?_)
        · refine lv_iload hx hb dX9_ifLeapt_47 (lv_at hl 0 rfl) ?_
          have c_49 : ¬ (1 : Int32) = 0 := by decide
          refine lv_if_ne (tgt := 56) hx hb dX9_ifLeapt_49 (by decide) (fun _ => ?_) (fun q => absurd q c_49)
          refine lv_iconst (v := 0) hx hb dX9_ifLeapt_56 (by decide) ?_
          refine cV_i CF hK hN hA hS (cut_of 8 [0, 1, 2, 3, 4, 5, 6, 7] hP hD rfl rfl rfl) (n_holds l D cI cZ cW cJ A (aI cI zs 28 gs :: aI cI zg 200 gg :: aI cI zi 100 gi :: aI cI zw 100 gw :: aI cI zo 10000 go :: aI cI ze 100 ge :: aZ cZ zd 100 gd :: X) mo zs zv zl zk zt zg zi zw zo ze zd (nI hn) vl vh vg vc vr vt vo vp va vb vd vq vm vz 0) (cwV 1 hts gX9_ifLeapt_X9_holds rfl rfl rfl (by decide +kernel) ⟨Nat.le_of_ble_eq_true rfl, Nat.le_of_ble_eq_true rfl⟩) (As := [.int 0]) (rest := []) (ci := 9) (q0 := 0) rfl rfl rfl hl.1 rfl (Nat.le_of_ble_eq_true rfl) dX9_ifLeapt_57 ⟨Nat.le_of_ble_eq_true rfl, Nat.le_of_ble_eq_true rfl⟩ (fun r_57 _ H locs hq hP hD hS => ?_)
          have hq : r_57 = bI (decide ((0 : Int32) = 0)) := hq
          subst hq
          have hP : va_P D vwCl (oX9 mo zs zv (nI hn) zl zk zt vl 0 zg zi zw vg zo ze vc vr vt vo (bI vm) vp va vb vd vq zd vz :: aI cI zs 28 gs :: aI cI zg 200 gg :: aI cI zi 100 gi :: aI cI zw 100 gw :: aI cI zo 10000 go :: aI cI ze 100 ge :: aZ cZ zd 100 gd :: X) H := pm_P hP 8 [0, 1, 2, 3, 4, 5, 6, 7] rfl
          have hD : va_D A (oX9 mo zs zv (nI hn) zl zk zt vl 0 zg zi zw vg zo ze vc vr vt vo (bI vm) vp va vb vd vq zd vz :: aI cI zs 28 gs :: aI cI zg 200 gg :: aI cI zi 100 gi :: aI cI zw 100 gw :: aI cI zo 10000 go :: aI cI ze 100 ge :: aZ cZ zd 100 gd :: X) := pm_D hD 8 [0, 1, 2, 3, 4, 5, 6, 7] rfl rfl rfl
          refine top_i (y := 1) (by decide) ?_
          have c_60 : ¬ (1 : Int32) = 0 := by decide
          refine lv_if_eq (tgt := 77) hx hb dX9_ifLeapt_60 (by decide) (fun q => absurd q c_60) (fun _ => ?_)
          obtain ⟨ac, ar, hac, har, e1, e2⟩ := isCell_nI (bt_c c_40)
          obtain ⟨ak, hak, e4⟩ := isRun_nI (bt_c c_14)
          obtain ⟨k9, hk9, e3⟩ := in_rng (k := 4) (by decide) (bt_c c_24)
          refine lv_aload_n hx hb dX9_ifLeapt_63 rfl (lv_at hl 1 rfl) ?_
          refine lv_iload_n hx hb dX9_ifLeapt_64 rfl (lv_at hl 2 rfl) ?_
          refine top_i (y := (nI ac)) e1 ?_
          refine lv_iload_n hx hb dX9_ifLeapt_65 rfl (lv_at hl 3 rfl) ?_
          refine top_i (y := (nI ar)) e2 ?_
          refine lv_iload_n hx hb dX9_ifLeapt_66 rfl (lv_at hl 4 rfl) ?_
          refine lv_iload hx hb dX9_ifLeapt_67 (lv_at hl 5 rfl) ?_
          refine top_i (y := (nI ak)) e4 ?_
          refine lv_iload hx hb dX9_ifLeapt_69 (lv_at hl 6 rfl) ?_
          refine top_i (y := (nI k9)) e3 ?_
          refine cV_i CF hK hN hA hS (cut_of 8 [0, 1, 2, 3, 4, 5, 6, 7] hP hD rfl rfl rfl) (n_leapTold l D cI cZ cW cJ A (aI cI zg 200 gg :: aI cI zi 100 gi :: aI cI zw 100 gw :: aI cI zo 10000 go :: aI cI ze 100 ge :: aZ cZ zd 100 gd :: X) mo zs zv zl zk zt zg zi zw zo ze zd (nI hn) vl 0 vg vc vr vt vo vp va vb vd vq vm vz gs S ac ar ak k9 xd hS0 hWf hac har hak hk9) (cwV 5 hts gX9_ifLeapt_X9_leapTold rfl rfl rfl (by decide +kernel) ⟨Nat.le_of_ble_eq_true rfl, Nat.le_of_ble_eq_true rfl⟩) (As := [.int (nI ac), .int (nI ar), .int xd, .int (nI ak), .int (nI k9)]) (rest := []) (ci := 9) (q0 := 0) rfl rfl rfl hl.1 rfl (Nat.le_of_ble_eq_true rfl) dX9_ifLeapt_71 ⟨Nat.le_of_ble_eq_true rfl, Nat.le_of_ble_eq_true rfl⟩ (fun r_71 u_71 H locs hq hP hD hS => ?_)
          have hq_71 : r_71 = leapS S ac ar xd ak k9 ∧ True := hq
          have hr_71 : r_71 = leapS S ac ar xd ak k9 := hq_71.1
          subst hr_71
          have hP : va_P D vwCl (oX9 mo zs zv (nI hn) zl zk zt vl 0 zg zi zw vg zo ze u_71.1 u_71.2.1 u_71.2.2.1 u_71.2.2.2.1 (bI u_71.2.2.2.2) vp va vb vd vq zd vz :: aI cI zs 28 gs :: aI cI zg 200 gg :: aI cI zi 100 gi :: aI cI zw 100 gw :: aI cI zo 10000 go :: aI cI ze 100 ge :: aZ cZ zd 100 gd :: X) H := pm_P hP 8 [0, 1, 2, 3, 4, 5, 6, 7] rfl
          have hD : va_D A (oX9 mo zs zv (nI hn) zl zk zt vl 0 zg zi zw vg zo ze u_71.1 u_71.2.1 u_71.2.2.1 u_71.2.2.2.1 (bI u_71.2.2.2.2) vp va vb vd vq zd vz :: aI cI zs 28 gs :: aI cI zg 200 gg :: aI cI zi 100 gi :: aI cI zw 100 gw :: aI cI zo 10000 go :: aI cI ze 100 ge :: aZ cZ zd 100 gd :: X) := pm_D hD 8 [0, 1, 2, 3, 4, 5, 6, 7] rfl rfl rfl
          refine lv_goto (tgt := 78) hx hb dX9_ifLeapt_74 (by decide) ?_
          exact W.iret (v := (leapS S ac ar xd ak k9)) hx hb hr (fun t9 ht9 hW9 => ⟨⟨(leapS S ac ar xd ak k9), (0, vg, gg, gi, gw, go, ge, gd, u_71.1, u_71.2.1, u_71.2.2.1, u_71.2.2.2.1, u_71.2.2.2.2), rfl, Or.inr (Or.inr ⟨bt_c c_40, bt_c c_4, bt_c c_14, k9, hk9, e3, rfl, by rw [e1, e2, e4, nI_clamp (by omega), nI_clamp (by omega), nI_clamp (by omega)]⟩), by rw [ht9]; exact hP, hD⟩, hS.F ht9⟩) hS.2.2 dX9_ifLeapt_78
        · refine lv_iconst (v := 1) hx hb dX9_ifLeapt_43 (by decide) ?_
          refine lv_goto (tgt := 57) hx hb dX9_ifLeapt_44 (by decide) ?_
          refine cV_i CF hK hN hA hS (cut_of 8 [0, 1, 2, 3, 4, 5, 6, 7] hP hD rfl rfl rfl) (n_holds l D cI cZ cW cJ A (aI cI zs 28 gs :: aI cI zg 200 gg :: aI cI zi 100 gi :: aI cI zw 100 gw :: aI cI zo 10000 go :: aI cI ze 100 ge :: aZ cZ zd 100 gd :: X) mo zs zv zl zk zt zg zi zw zo ze zd (nI hn) vl vh vg vc vr vt vo vp va vb vd vq vm vz 1) (cwV 1 hts gX9_ifLeapt_X9_holds rfl rfl rfl (by decide +kernel) ⟨Nat.le_of_ble_eq_true rfl, Nat.le_of_ble_eq_true rfl⟩) (As := [.int 1]) (rest := []) (ci := 9) (q0 := 0) rfl rfl rfl hl.1 rfl (Nat.le_of_ble_eq_true rfl) dX9_ifLeapt_57 ⟨Nat.le_of_ble_eq_true rfl, Nat.le_of_ble_eq_true rfl⟩ (fun r_57 _ H locs hq hP hD hS => ?_)
          have hq : r_57 = bI (decide ((1 : Int32) = 0)) := hq
          subst hq
          have hP : va_P D vwCl (oX9 mo zs zv (nI hn) zl zk zt vl 1 zg zi zw vg zo ze vc vr vt vo (bI vm) vp va vb vd vq zd vz :: aI cI zs 28 gs :: aI cI zg 200 gg :: aI cI zi 100 gi :: aI cI zw 100 gw :: aI cI zo 10000 go :: aI cI ze 100 ge :: aZ cZ zd 100 gd :: X) H := pm_P hP 8 [0, 1, 2, 3, 4, 5, 6, 7] rfl
          have hD : va_D A (oX9 mo zs zv (nI hn) zl zk zt vl 1 zg zi zw vg zo ze vc vr vt vo (bI vm) vp va vb vd vq zd vz :: aI cI zs 28 gs :: aI cI zg 200 gg :: aI cI zi 100 gi :: aI cI zw 100 gw :: aI cI zo 10000 go :: aI cI ze 100 ge :: aZ cZ zd 100 gd :: X) := pm_D hD 8 [0, 1, 2, 3, 4, 5, 6, 7] rfl rfl rfl
          refine top_i (y := 0) (by decide) ?_
          have c_60 : (0 : Int32) = 0 := by decide
          refine lv_if_eq (tgt := 77) hx hb dX9_ifLeapt_60 (by decide) (fun _ => ?_) (fun q => absurd c_60 q)
          refine lv_iconst (v := 0) hx hb dX9_ifLeapt_77 (by decide) ?_
          exact W.iret (v := 0) hx hb hr (fun t9 ht9 hW9 => ⟨⟨0, (1, vg, gg, gi, gw, go, ge, gd, vc, vr, vt, vo, vm), rfl, Or.inl ⟨bf_c c_40, rfl⟩, by rw [ht9]; exact hP, hD⟩, hS.F ht9⟩) hS.2.2 dX9_ifLeapt_78
set_option maxHeartbeats 4000000 in
set_option maxRecDepth 100000 in
theorem n_slowest (l : Launch) (D : va_G) (cI cZ cW cJ : ClassId) (A : Nat → Prop) (X : va_W) (mo zs zv zl zk zt zg zi zw zo ze zd : Nat) (vl vh vg vc vr vt vo vp va vb vd vq : Int32) (vm : Bool) (vz : Int64) (hn : Nat) (gs gg gi gw go ge gd : Nat → Int32) (S : KS) (xa xb : Int32) (hS0 : AbsM S gs) (hWf : Wf S) : Met l yX9_slowest wsX9_slowest ({ frames := 8, cells := 0, slots := 0, locals := 184 }) (va_Pc [.ref mo, .int xa, .int xb] (wd D (tyL cI cZ cW cJ) A (oX9 mo zs zv (nI hn) zl zk zt vl vh zg zi zw vg zo ze vc vr vt vo (bI vm) vp va vb vd vq zd vz :: aI cI zs 28 gs :: aI cI zg 200 gg :: aI cI zi 100 gi :: aI cI zw 100 gw :: aI cI zo 10000 go :: aI cI ze 100 ge :: aZ cZ zd 100 gd :: X))) (va_Qi (fun (r : Int32) (u : Int32 × Int32 × (Nat → Int32) × (Nat → Int32) × (Nat → Int32) × (Nat → Int32) × (Nat → Int32) × (Nat → Int32) × Int32 × Int32 × Int32 × Int32 × Bool) => ((hasX (nS S) xa = false ∨ hasX (nS S) xb = false) ∧ u.1 = 1) ∨ (∃ a9 b9 : Nat, a9 < nS S ∧ b9 < nS S ∧ xa = nI a9 ∧ xb = nI b9 ∧ u.1 = 0 ∧ r = slowS S a9 b9)) (fun (u : Int32 × Int32 × (Nat → Int32) × (Nat → Int32) × (Nat → Int32) × (Nat → Int32) × (Nat → Int32) × (Nat → Int32) × Int32 × Int32 × Int32 × Int32 × Bool) t => wq D A (oX9 mo zs zv (nI hn) zl zk zt vl u.1 zg zi zw u.2.1 zo ze u.2.2.2.2.2.2.2.2.1 u.2.2.2.2.2.2.2.2.2.1 u.2.2.2.2.2.2.2.2.2.2.1 u.2.2.2.2.2.2.2.2.2.2.2.1 (bI u.2.2.2.2.2.2.2.2.2.2.2.2) vp va vb vd vq zd vz :: aI cI zs 28 gs :: aI cI zg 200 u.2.2.1 :: aI cI zi 100 u.2.2.2.1 :: aI cI zw 100 u.2.2.2.2.1 :: aI cI zo 10000 u.2.2.2.2.2.1 :: aI cI ze 100 u.2.2.2.2.2.2.1 :: aZ cZ zd 100 u.2.2.2.2.2.2.2.1 :: X) t) A) 0 0 A := by
  refine Met.ofW (cc := cX9_slowest) (maxL := 4) (ret := (some .int)) (by decide) rfl ?_
  intro p e s m args below meth c s₁ B hml hv
  obtain ⟨rfl, hsz9, hP, hK, hD, hN⟩ := hv
  have hx := B.exec
  have hb := B.bytes
  have hr := B.returns
  have hts := atoms_spec (ws := wsX9_slowest) B.pre
  have hown : s.vm.findClass RX9 = some m.cls := findClass_of_methodNamed B.named
  have hlocks := B.notSynchronized
  have CF : CallFix p m c cX9_slowest 4 s _ wsX9_slowest RX9 := ⟨hx, hb, hml, hown, hts⟩
  have hA : ∀ q : Nat, s.heap.size ≤ q → A q := hsz9
  have hS : va_S A s.heap s.heap [] := va_S.rf
  have hiX9 : ∀ w ∈ u_ws RX9 TX9 26, w ∈ wsX9_slowest := fun _ h => List.mem_cons_of_mem _ (List.mem_append_right _ (h))
  have hl := lv_entry ([.ref mo, .int xa, .int xb]) (n := 4) (Nat.le_of_ble_eq_true rfl)
  rw [lg_entry_eq]
  generalize (lg_sl ([.ref mo, .int xa, .int xb]) ++ List.replicate (4 - (lg_sl ([.ref mo, .int xa, .int xb])).length) Slot.unset).toArray = ls at hl ⊢
  have hl : lv_has ls 4 [(0, .ref mo), (1, .int xa), (2, .int xb)] := hl
  show W p l e ({ frames := 8, cells := 0, slots := 0, locals := 184 } : Room) s m (([.ref mo, .int xa, .int xb] : List Value).toArray) below meth c s.heap [] 0 0 (MQ below (va_Qi (fun (r : Int32) (u : Int32 × Int32 × (Nat → Int32) × (Nat → Int32) × (Nat → Int32) × (Nat → Int32) × (Nat → Int32) × (Nat → Int32) × Int32 × Int32 × Int32 × Int32 × Bool) => ((hasX (nS S) xa = false ∨ hasX (nS S) xb = false) ∧ u.1 = 1) ∨ (∃ a9 b9 : Nat, a9 < nS S ∧ b9 < nS S ∧ xa = nI a9 ∧ xb = nI b9 ∧ u.1 = 0 ∧ r = slowS S a9 b9)) (fun (u : Int32 × Int32 × (Nat → Int32) × (Nat → Int32) × (Nat → Int32) × (Nat → Int32) × (Nat → Int32) × (Nat → Int32) × Int32 × Int32 × Int32 × Int32 × Bool) t => wq D A (oX9 mo zs zv (nI hn) zl zk zt vl u.1 zg zi zw u.2.1 zo ze u.2.2.2.2.2.2.2.2.1 u.2.2.2.2.2.2.2.2.2.1 u.2.2.2.2.2.2.2.2.2.2.1 u.2.2.2.2.2.2.2.2.2.2.2.1 (bI u.2.2.2.2.2.2.2.2.2.2.2.2) vp va vb vd vq zd vz :: aI cI zs 28 gs :: aI cI zg 200 u.2.2.1 :: aI cI zi 100 u.2.2.2.1 :: aI cI zw 100 u.2.2.2.2.1 :: aI cI zo 10000 u.2.2.2.2.2.1 :: aI cI ze 100 u.2.2.2.2.2.2.1 :: aZ cZ zd 100 u.2.2.2.2.2.2.2.1 :: X) t) A) (([.ref mo, .int xa, .int xb] : List Value).toArray) s 0 0 A) (F0 m 0 ls [])
  refine lv_aload_n hx hb dX9_slowest_0 rfl (lv_at hl 0 rfl) ?_
  refine lv_aload_n hx hb dX9_slowest_1 rfl (lv_at hl 0 rfl) ?_
  refine lv_iload_n hx hb dX9_slowest_2 rfl (lv_at hl 1 rfl) ?_
  refine cV_i CF hK hN hA hS (cut_of 8 [0, 1, 2, 3, 4, 5, 6, 7] hP hD rfl rfl rfl) (n_isLedge l D cI cZ cW cJ A (aI cI ze 100 ge :: aZ cZ zd 100 gd :: X) mo zs zv zl zk zt zg zi zw zo ze zd (nI hn) vl vh vg vc vr vt vo vp va vb vd vq vm vz gs gg gi gw go S xa hS0 hWf) (cwV 1 hts gX9_slowest_X9_isLedge rfl rfl rfl (by decide +kernel) ⟨Nat.le_of_ble_eq_true rfl, Nat.le_of_ble_eq_true rfl⟩) (As := [.int xa]) (rest := [.ref mo]) (ci := 9) (q0 := 0) rfl rfl rfl hl.1 rfl (Nat.le_of_ble_eq_true rfl) dX9_slowest_3 ⟨Nat.le_of_ble_eq_true rfl, Nat.le_of_ble_eq_true rfl⟩ (fun r_3 u_3 H locs hq hP hD hS => ?_)
  have hq_3 : r_3 = bI (hasX (nS S) xa) ∧ MapM S u_3.1 u_3.2.1 u_3.2.2.1 ∧ RchM S u_3.2.2.2.1 := hq
  have hr_3 : r_3 = bI (hasX (nS S) xa) := hq_3.1
  subst hr_3
  have hP : va_P D vwCl (oX9 mo zs zv (nI hn) zl zk zt vl vh zg zi zw (nI (nS S)) zo ze u_3.2.2.2.2.1 u_3.2.2.2.2.2.1 u_3.2.2.2.2.2.2.1 u_3.2.2.2.2.2.2.2.1 (bI u_3.2.2.2.2.2.2.2.2) vp va vb vd vq zd vz :: aI cI zs 28 gs :: aI cI zg 200 u_3.1 :: aI cI zi 100 u_3.2.1 :: aI cI zw 100 u_3.2.2.1 :: aI cI zo 10000 u_3.2.2.2.1 :: aI cI ze 100 ge :: aZ cZ zd 100 gd :: X) H := pm_P hP 8 [0, 1, 2, 3, 4, 5, 6, 7] rfl
  have hD : va_D A (oX9 mo zs zv (nI hn) zl zk zt vl vh zg zi zw (nI (nS S)) zo ze u_3.2.2.2.2.1 u_3.2.2.2.2.2.1 u_3.2.2.2.2.2.2.1 u_3.2.2.2.2.2.2.2.1 (bI u_3.2.2.2.2.2.2.2.2) vp va vb vd vq zd vz :: aI cI zs 28 gs :: aI cI zg 200 u_3.1 :: aI cI zi 100 u_3.2.1 :: aI cI zw 100 u_3.2.2.1 :: aI cI zo 10000 u_3.2.2.2.1 :: aI cI ze 100 ge :: aZ cZ zd 100 gd :: X) := pm_D hD 8 [0, 1, 2, 3, 4, 5, 6, 7] rfl rfl rfl
  have hM : MapM S u_3.1 u_3.2.1 u_3.2.2.1 := hq_3.2.1
  have hR : RchM S u_3.2.2.2.1 := hq_3.2.2
  have hn9 : nS S ≤ 100 := nL_le _
  refine lv_if_eq (tgt := 27) hx hb dX9_slowest_6 (by decide) (fun c_6 => ?_) (fun c_6 => ?_)
  · refine lv_iconst (v := 1) hx hb dX9_slowest_27 (by decide) ?_
    refine cV_i CF hK hN hA hS (cut_of 8 [0, 1, 2, 3, 4, 5, 6, 7] hP hD rfl rfl rfl) (n_holds l D cI cZ cW cJ A (aI cI zs 28 gs :: aI cI zg 200 u_3.1 :: aI cI zi 100 u_3.2.1 :: aI cI zw 100 u_3.2.2.1 :: aI cI zo 10000 u_3.2.2.2.1 :: aI cI ze 100 ge :: aZ cZ zd 100 gd :: X) mo zs zv zl zk zt zg zi zw zo ze zd (nI hn) vl vh (nI (nS S)) u_3.2.2.2.2.1 u_3.2.2.2.2.2.1 u_3.2.2.2.2.2.2.1 u_3.2.2.2.2.2.2.2.1 vp va vb vd vq u_3.2.2.2.2.2.2.2.2 vz 1) (cwV 1 hts gX9_slowest_X9_holds rfl rfl rfl (by decide +kernel) ⟨Nat.le_of_ble_eq_true rfl, Nat.le_of_ble_eq_true rfl⟩) (As := [.int 1]) (rest := []) (ci := 9) (q0 := 0) rfl rfl rfl hl.1 rfl (Nat.le_of_ble_eq_true rfl) dX9_slowest_28 ⟨Nat.le_of_ble_eq_true rfl, Nat.le_of_ble_eq_true rfl⟩ (fun r_28 _ H locs hq hP hD hS => ?_)
    have hq : r_28 = bI (decide ((1 : Int32) = 0)) := hq
    subst hq
    have hP : va_P D vwCl (oX9 mo zs zv (nI hn) zl zk zt vl 1 zg zi zw (nI (nS S)) zo ze u_3.2.2.2.2.1 u_3.2.2.2.2.2.1 u_3.2.2.2.2.2.2.1 u_3.2.2.2.2.2.2.2.1 (bI u_3.2.2.2.2.2.2.2.2) vp va vb vd vq zd vz :: aI cI zs 28 gs :: aI cI zg 200 u_3.1 :: aI cI zi 100 u_3.2.1 :: aI cI zw 100 u_3.2.2.1 :: aI cI zo 10000 u_3.2.2.2.1 :: aI cI ze 100 ge :: aZ cZ zd 100 gd :: X) H := pm_P hP 8 [0, 1, 2, 3, 4, 5, 6, 7] rfl
    have hD : va_D A (oX9 mo zs zv (nI hn) zl zk zt vl 1 zg zi zw (nI (nS S)) zo ze u_3.2.2.2.2.1 u_3.2.2.2.2.2.1 u_3.2.2.2.2.2.2.1 u_3.2.2.2.2.2.2.2.1 (bI u_3.2.2.2.2.2.2.2.2) vp va vb vd vq zd vz :: aI cI zs 28 gs :: aI cI zg 200 u_3.1 :: aI cI zi 100 u_3.2.1 :: aI cI zw 100 u_3.2.2.1 :: aI cI zo 10000 u_3.2.2.2.1 :: aI cI ze 100 ge :: aZ cZ zd 100 gd :: X) := pm_D hD 8 [0, 1, 2, 3, 4, 5, 6, 7] rfl rfl rfl
    refine top_i (y := 0) (by decide) ?_
    have c_31 : (0 : Int32) = 0 := by decide
    refine lv_if_ne (tgt := 36) hx hb dX9_slowest_31 (by decide) (fun q => absurd c_31 q) (fun _ => ?_)
    refine lv_iconst (v := 0) hx hb dX9_slowest_34 (by decide) ?_
    exact W.iret (v := 0) hx hb hr (fun t9 ht9 hW9 => ⟨⟨0, (1, (nI (nS S)), u_3.1, u_3.2.1, u_3.2.2.1, u_3.2.2.2.1, ge, gd, u_3.2.2.2.2.1, u_3.2.2.2.2.2.1, u_3.2.2.2.2.2.2.1, u_3.2.2.2.2.2.2.2.1, u_3.2.2.2.2.2.2.2.2), rfl, Or.inl ⟨Or.inl (bf_c c_6), rfl⟩, by rw [ht9]; exact hP, hD⟩, hS.F ht9⟩) hS.2.2 dX9_slowest_35
  · refine lv_iload_n hx hb dX9_slowest_9 rfl (lv_at hl 2 rfl) ?_
    refine lv_iconst (v := 0) hx hb dX9_slowest_10 (by decide) ?_
    refine lv_aload_n hx hb dX9_slowest_11 rfl (lv_at hl 0 rfl) ?_
    refine va_get (D := D) (ci := 9) (v := .int (nI (nS S))) (C := RX9) (T := TX9) (N := 26) hx hb hts hiX9 hown hK hP 0 rfl rfl 11 (by decide) (hts (.fieldLink RX9 66 "LedgeLeapsModel" "ledges" "I") (List.mem_of_getElem? (i := 1) rfl)) (fun _ h9 => h9) rfl dX9_slowest_12 ?_
    refine lv_iconst (v := 1) hx hb dX9_slowest_15 (by decide) ?_
    refine lv_isub hx hb dX9_slowest_16 ?_
    refine cS_i CF hK hN hA hS (cut_of 8 [0, 1, 2, 3, 4, 5, 6, 7] hP hD rfl rfl rfl) (n_in l D cI cZ cW cJ A (oX9 mo zs zv (nI hn) zl zk zt vl vh zg zi zw (nI (nS S)) zo ze u_3.2.2.2.2.1 u_3.2.2.2.2.2.1 u_3.2.2.2.2.2.2.1 u_3.2.2.2.2.2.2.2.1 (bI u_3.2.2.2.2.2.2.2.2) vp va vb vd vq zd vz :: aI cI zs 28 gs :: aI cI zg 200 u_3.1 :: aI cI zi 100 u_3.2.1 :: aI cI zw 100 u_3.2.2.1 :: aI cI zo 10000 u_3.2.2.2.1 :: aI cI ze 100 ge :: aZ cZ zd 100 gd :: X) xb 0 ((nI (nS S)) - 1)) (va_cwS 3 hts gX9_slowest_X9_in rfl rfl rfl (by decide +kernel) ⟨Nat.le_of_ble_eq_true rfl, Nat.le_of_ble_eq_true rfl⟩) (As := [.int xb, .int 0, .int ((nI (nS S)) - 1)]) (rest := [.ref mo]) rfl hl.1 rfl (Nat.le_of_ble_eq_true rfl) dX9_slowest_17 ⟨Nat.le_of_ble_eq_true rfl, Nat.le_of_ble_eq_true rfl⟩ (fun r_17 _ H locs hq hP hD hS => ?_)
    have hq : r_17 = bI (inX xb 0 ((nI (nS S)) - 1)) := hq
    subst hq
    have hP : va_P D vwCl (oX9 mo zs zv (nI hn) zl zk zt vl vh zg zi zw (nI (nS S)) zo ze u_3.2.2.2.2.1 u_3.2.2.2.2.2.1 u_3.2.2.2.2.2.2.1 u_3.2.2.2.2.2.2.2.1 (bI u_3.2.2.2.2.2.2.2.2) vp va vb vd vq zd vz :: aI cI zs 28 gs :: aI cI zg 200 u_3.1 :: aI cI zi 100 u_3.2.1 :: aI cI zw 100 u_3.2.2.1 :: aI cI zo 10000 u_3.2.2.2.1 :: aI cI ze 100 ge :: aZ cZ zd 100 gd :: X) H := pm_P hP 8 [0, 1, 2, 3, 4, 5, 6, 7] rfl
    have hD : va_D A (oX9 mo zs zv (nI hn) zl zk zt vl vh zg zi zw (nI (nS S)) zo ze u_3.2.2.2.2.1 u_3.2.2.2.2.2.1 u_3.2.2.2.2.2.2.1 u_3.2.2.2.2.2.2.2.1 (bI u_3.2.2.2.2.2.2.2.2) vp va vb vd vq zd vz :: aI cI zs 28 gs :: aI cI zg 200 u_3.1 :: aI cI zi 100 u_3.2.1 :: aI cI zw 100 u_3.2.2.1 :: aI cI zo 10000 u_3.2.2.2.1 :: aI cI ze 100 ge :: aZ cZ zd 100 gd :: X) := pm_D hD 8 [0, 1, 2, 3, 4, 5, 6, 7] rfl rfl rfl
    refine lv_if_eq (tgt := 27) hx hb dX9_slowest_20 (by decide) (fun c_20 => ?_) (fun c_20 => ?_)
    · refine lv_iconst (v := 1) hx hb dX9_slowest_27 (by decide) ?_
      refine cV_i CF hK hN hA hS (cut_of 8 [0, 1, 2, 3, 4, 5, 6, 7] hP hD rfl rfl rfl) (n_holds l D cI cZ cW cJ A (aI cI zs 28 gs :: aI cI zg 200 u_3.1 :: aI cI zi 100 u_3.2.1 :: aI cI zw 100 u_3.2.2.1 :: aI cI zo 10000 u_3.2.2.2.1 :: aI cI ze 100 ge :: aZ cZ zd 100 gd :: X) mo zs zv zl zk zt zg zi zw zo ze zd (nI hn) vl vh (nI (nS S)) u_3.2.2.2.2.1 u_3.2.2.2.2.2.1 u_3.2.2.2.2.2.2.1 u_3.2.2.2.2.2.2.2.1 vp va vb vd vq u_3.2.2.2.2.2.2.2.2 vz 1) (cwV 1 hts gX9_slowest_X9_holds rfl rfl rfl (by decide +kernel) ⟨Nat.le_of_ble_eq_true rfl, Nat.le_of_ble_eq_true rfl⟩) (As := [.int 1]) (rest := []) (ci := 9) (q0 := 0) rfl rfl rfl hl.1 rfl (Nat.le_of_ble_eq_true rfl) dX9_slowest_28 ⟨Nat.le_of_ble_eq_true rfl, Nat.le_of_ble_eq_true rfl⟩ (fun r_28 _ H locs hq hP hD hS => ?_)
      have hq : r_28 = bI (decide ((1 : Int32) = 0)) := hq
      subst hq
      have hP : va_P D vwCl (oX9 mo zs zv (nI hn) zl zk zt vl 1 zg zi zw (nI (nS S)) zo ze u_3.2.2.2.2.1 u_3.2.2.2.2.2.1 u_3.2.2.2.2.2.2.1 u_3.2.2.2.2.2.2.2.1 (bI u_3.2.2.2.2.2.2.2.2) vp va vb vd vq zd vz :: aI cI zs 28 gs :: aI cI zg 200 u_3.1 :: aI cI zi 100 u_3.2.1 :: aI cI zw 100 u_3.2.2.1 :: aI cI zo 10000 u_3.2.2.2.1 :: aI cI ze 100 ge :: aZ cZ zd 100 gd :: X) H := pm_P hP 8 [0, 1, 2, 3, 4, 5, 6, 7] rfl
      have hD : va_D A (oX9 mo zs zv (nI hn) zl zk zt vl 1 zg zi zw (nI (nS S)) zo ze u_3.2.2.2.2.1 u_3.2.2.2.2.2.1 u_3.2.2.2.2.2.2.1 u_3.2.2.2.2.2.2.2.1 (bI u_3.2.2.2.2.2.2.2.2) vp va vb vd vq zd vz :: aI cI zs 28 gs :: aI cI zg 200 u_3.1 :: aI cI zi 100 u_3.2.1 :: aI cI zw 100 u_3.2.2.1 :: aI cI zo 10000 u_3.2.2.2.1 :: aI cI ze 100 ge :: aZ cZ zd 100 gd :: X) := pm_D hD 8 [0, 1, 2, 3, 4, 5, 6, 7] rfl rfl rfl
      refine top_i (y := 0) (by decide) ?_
      have c_31 : (0 : Int32) = 0 := by decide
      refine lv_if_ne (tgt := 36) hx hb dX9_slowest_31 (by decide) (fun q => absurd c_31 q) (fun _ => ?_)
      refine lv_iconst (v := 0) hx hb dX9_slowest_34 (by decide) ?_
      exact W.iret (v := 0) hx hb hr (fun t9 ht9 hW9 => ⟨⟨0, (1, (nI (nS S)), u_3.1, u_3.2.1, u_3.2.2.1, u_3.2.2.2.1, ge, gd, u_3.2.2.2.2.1, u_3.2.2.2.2.2.1, u_3.2.2.2.2.2.2.1, u_3.2.2.2.2.2.2.2.1, u_3.2.2.2.2.2.2.2.2), rfl, Or.inl ⟨Or.inr (by rw [← in_led hWf]; exact bf_c c_20), rfl⟩, by rw [ht9]; exact hP, hD⟩, hS.F ht9⟩) hS.2.2 dX9_slowest_35
    · refine lv_iconst (v := 0) hx hb dX9_slowest_23 (by decide) ?_
      refine lv_goto (tgt := 28) hx hb dX9_slowest_24 (by decide) ?_
      refine cV_i CF hK hN hA hS (cut_of 8 [0, 1, 2, 3, 4, 5, 6, 7] hP hD rfl rfl rfl) (n_holds l D cI cZ cW cJ A (aI cI zs 28 gs :: aI cI zg 200 u_3.1 :: aI cI zi 100 u_3.2.1 :: aI cI zw 100 u_3.2.2.1 :: aI cI zo 10000 u_3.2.2.2.1 :: aI cI ze 100 ge :: aZ cZ zd 100 gd :: X) mo zs zv zl zk zt zg zi zw zo ze zd (nI hn) vl vh (nI (nS S)) u_3.2.2.2.2.1 u_3.2.2.2.2.2.1 u_3.2.2.2.2.2.2.1 u_3.2.2.2.2.2.2.2.1 vp va vb vd vq u_3.2.2.2.2.2.2.2.2 vz 0) (cwV 1 hts gX9_slowest_X9_holds rfl rfl rfl (by decide +kernel) ⟨Nat.le_of_ble_eq_true rfl, Nat.le_of_ble_eq_true rfl⟩) (As := [.int 0]) (rest := []) (ci := 9) (q0 := 0) rfl rfl rfl hl.1 rfl (Nat.le_of_ble_eq_true rfl) dX9_slowest_28 ⟨Nat.le_of_ble_eq_true rfl, Nat.le_of_ble_eq_true rfl⟩ (fun r_28 _ H locs hq hP hD hS => ?_)
      have hq : r_28 = bI (decide ((0 : Int32) = 0)) := hq
      subst hq
      have hP : va_P D vwCl (oX9 mo zs zv (nI hn) zl zk zt vl 0 zg zi zw (nI (nS S)) zo ze u_3.2.2.2.2.1 u_3.2.2.2.2.2.1 u_3.2.2.2.2.2.2.1 u_3.2.2.2.2.2.2.2.1 (bI u_3.2.2.2.2.2.2.2.2) vp va vb vd vq zd vz :: aI cI zs 28 gs :: aI cI zg 200 u_3.1 :: aI cI zi 100 u_3.2.1 :: aI cI zw 100 u_3.2.2.1 :: aI cI zo 10000 u_3.2.2.2.1 :: aI cI ze 100 ge :: aZ cZ zd 100 gd :: X) H := pm_P hP 8 [0, 1, 2, 3, 4, 5, 6, 7] rfl
      have hD : va_D A (oX9 mo zs zv (nI hn) zl zk zt vl 0 zg zi zw (nI (nS S)) zo ze u_3.2.2.2.2.1 u_3.2.2.2.2.2.1 u_3.2.2.2.2.2.2.1 u_3.2.2.2.2.2.2.2.1 (bI u_3.2.2.2.2.2.2.2.2) vp va vb vd vq zd vz :: aI cI zs 28 gs :: aI cI zg 200 u_3.1 :: aI cI zi 100 u_3.2.1 :: aI cI zw 100 u_3.2.2.1 :: aI cI zo 10000 u_3.2.2.2.1 :: aI cI ze 100 ge :: aZ cZ zd 100 gd :: X) := pm_D hD 8 [0, 1, 2, 3, 4, 5, 6, 7] rfl rfl rfl
      refine top_i (y := 1) (by decide) ?_
      have c_31 : ¬ (1 : Int32) = 0 := by decide
      refine lv_if_ne (tgt := 36) hx hb dX9_slowest_31 (by decide) (fun _ => ?_) (fun q => absurd q c_31)
      obtain ⟨a9, ha9, e1⟩ := hasX_nI (n := nS S) (by omega) (bt_c c_6)
      obtain ⟨b9, hb9, e2⟩ := hasX_nI (n := nS S) (x := xb) (by omega) (by rw [← in_led hWf]; exact bt_c c_20)
      refine lv_aload_n hx hb dX9_slowest_36 rfl (lv_at hl 0 rfl) ?_
      refine va_get (D := D) (ci := 9) (v := .ref zo) (C := RX9) (T := TX9) (N := 26) hx hb hts hiX9 hown hK hP 0 rfl rfl 12 (by decide) (hts (.fieldLink RX9 35 "LedgeLeapsModel" "slow" "[I") (List.mem_of_getElem? (i := 2) rfl)) (fun _ h9 => h9) rfl dX9_slowest_37 ?_
      refine lv_bipush (v := 100) hx hb dX9_slowest_40 (by decide) ?_
      refine lv_iload_n hx hb dX9_slowest_42 rfl (lv_at hl 1 rfl) ?_
      refine top_i (y := (nI a9)) e1 ?_
      refine lv_imul hx hb dX9_slowest_43 ?_
      refine top_i (y := (nI (100 * a9))) (pk_mul 100 a9) ?_
      refine lv_iload_n hx hb dX9_slowest_44 rfl (lv_at hl 2 rfl) ?_
      refine top_i (y := (nI b9)) e2 ?_
      refine lv_iadd hx hb dX9_slowest_45 ?_
      refine top_i (y := (nI (100 * a9 + b9))) (nI_add _ _) ?_
      refine va_iald hx hb hK hP 5 0 rfl rfl (vp_ix (e := (100 * a9 + b9)) (rfl) (by omega) (by decide)) dX9_slowest_46 ?_
      refine top_i (y := (u_3.2.2.2.1 (100 * a9 + b9))) (ld_ix (f := u_3.2.2.2.1) (x := (nI (100 * a9 + b9))) (e := (100 * a9 + b9)) (n := 10000) (rfl) (by omega) (by decide)) ?_
      refine lv_istore_n (lv' := [(3, .int (u_3.2.2.2.1 (100 * a9 + b9))), (0, .ref mo), (1, .int xa), (2, .int xb)]) hx hb dX9_slowest_47 rfl hl (by decide) rfl (fun ls hl => ?_)
      refine lv_iload_n hx hb dX9_slowest_48 rfl (lv_at hl 0 rfl) ?_
      refine lv_bipush (v := 9) hx hb dX9_slowest_49 (by decide) ?_
      refine lv_icmp_ne (tgt := 58) hx hb dX9_slowest_51 (by decide) (fun c_51 => ?_) (fun c_51 => ?_)
      · refine lv_iload_n hx hb dX9_slowest_58 rfl (lv_at hl 0 rfl) ?_
        exact W.iret (v := (u_3.2.2.2.1 (100 * a9 + b9))) hx hb hr (fun t9 ht9 hW9 => ⟨⟨(u_3.2.2.2.1 (100 * a9 + b9)), (0, (nI (nS S)), u_3.1, u_3.2.1, u_3.2.2.1, u_3.2.2.2.1, ge, gd, u_3.2.2.2.2.1, u_3.2.2.2.2.2.1, u_3.2.2.2.2.2.2.1, u_3.2.2.2.2.2.2.2.1, u_3.2.2.2.2.2.2.2.2), rfl, Or.inr ⟨a9, b9, ha9, hb9, e1, e2, rfl, by rw [← hR.slow ha9 hb9, if_neg c_51]⟩, by rw [ht9]; exact hP, hD⟩, hS.F ht9⟩) hS.2.2 dX9_slowest_59
      · refine lv_iconst (v := (-1)) hx hb dX9_slowest_54 (by decide) ?_
        refine lv_goto (tgt := 59) hx hb dX9_slowest_55 (by decide) ?_
        exact W.iret (v := (-1)) hx hb hr (fun t9 ht9 hW9 => ⟨⟨(-1), (0, (nI (nS S)), u_3.1, u_3.2.1, u_3.2.2.1, u_3.2.2.2.1, ge, gd, u_3.2.2.2.2.1, u_3.2.2.2.2.2.1, u_3.2.2.2.2.2.2.1, u_3.2.2.2.2.2.2.2.1, u_3.2.2.2.2.2.2.2.2), rfl, Or.inr ⟨a9, b9, ha9, hb9, e1, e2, rfl, by rw [← hR.slow ha9 hb9, if_pos c_51]⟩, by rw [ht9]; exact hP, hD⟩, hS.F ht9⟩) hS.2.2 dX9_slowest_59
set_option maxHeartbeats 4000000 in
set_option maxRecDepth 100000 in
theorem n_fewest (l : Launch) (D : va_G) (cI cZ cW cJ : ClassId) (A : Nat → Prop) (X : va_W) (mo zs zv zl zk zt zg zi zw zo ze zd : Nat) (vl vh vg vc vr vt vo vp va vb vd vq : Int32) (vm : Bool) (vz : Int64) (hn : Nat) (gs gg gi gw go ge gd : Nat → Int32) (S : KS) (xa xb xu xk : Int32) (hS0 : AbsM S gs) (hWf : Wf S) : Met l yX9_fewest wsX9_fewest ({ frames := 8, cells := 0, slots := 0, locals := 184 }) (va_Pc [.ref mo, .int xa, .int xb, .int xu, .int xk] (wd D (tyL cI cZ cW cJ) A (oX9 mo zs zv (nI hn) zl zk zt vl vh zg zi zw vg zo ze vc vr vt vo (bI vm) vp va vb vd vq zd vz :: aI cI zs 28 gs :: aI cI zg 200 gg :: aI cI zi 100 gi :: aI cI zw 100 gw :: aI cI zo 10000 go :: aI cI ze 100 ge :: aZ cZ zd 100 gd :: X))) (va_Qi (fun (r : Int32) (u : Int32 × Int32 × (Nat → Int32) × (Nat → Int32) × (Nat → Int32) × (Nat → Int32) × (Nat → Int32) × (Nat → Int32) × Int32 × Int32 × Int32 × Int32 × Bool) => ((hasX (nS S) xa = false ∨ hasX (nS S) xb = false) ∧ u.1 = 1) ∨ (hasX (nS S) xa = true ∧ hasX (nS S) xb = true ∧ (isRunX xu = false ∨ xk < 0 ∨ 1 < xk) ∧ u.1 = 2) ∨ (∃ a9 b9 k9 : Nat, a9 < nS S ∧ b9 < nS S ∧ k9 ≤ 3 ∧ xa = nI a9 ∧ xb = nI b9 ∧ xu = nI k9 ∧ ¬ xk < 0 ∧ xk ≤ 1 ∧ u.1 = 0 ∧ r = dS S k9 a9 b9)) (fun (u : Int32 × Int32 × (Nat → Int32) × (Nat → Int32) × (Nat → Int32) × (Nat → Int32) × (Nat → Int32) × (Nat → Int32) × Int32 × Int32 × Int32 × Int32 × Bool) t => wq D A (oX9 mo zs zv (nI hn) zl zk zt vl u.1 zg zi zw u.2.1 zo ze u.2.2.2.2.2.2.2.2.1 u.2.2.2.2.2.2.2.2.2.1 u.2.2.2.2.2.2.2.2.2.2.1 u.2.2.2.2.2.2.2.2.2.2.2.1 (bI u.2.2.2.2.2.2.2.2.2.2.2.2) vp va vb vd vq zd vz :: aI cI zs 28 gs :: aI cI zg 200 u.2.2.1 :: aI cI zi 100 u.2.2.2.1 :: aI cI zw 100 u.2.2.2.2.1 :: aI cI zo 10000 u.2.2.2.2.2.1 :: aI cI ze 100 u.2.2.2.2.2.2.1 :: aZ cZ zd 100 u.2.2.2.2.2.2.2.1 :: X) t) A) 0 0 A := by
  refine Met.ofW (cc := cX9_fewest) (maxL := 6) (ret := (some .int)) (by decide) rfl ?_
  intro p e s m args below meth c s₁ B hml hv
  obtain ⟨rfl, hsz9, hP, hK, hD, hN⟩ := hv
  have hx := B.exec
  have hb := B.bytes
  have hr := B.returns
  have hts := atoms_spec (ws := wsX9_fewest) B.pre
  have hown : s.vm.findClass RX9 = some m.cls := findClass_of_methodNamed B.named
  have hlocks := B.notSynchronized
  have CF : CallFix p m c cX9_fewest 6 s _ wsX9_fewest RX9 := ⟨hx, hb, hml, hown, hts⟩
  have hA : ∀ q : Nat, s.heap.size ≤ q → A q := hsz9
  have hS : va_S A s.heap s.heap [] := va_S.rf
  have hiX9 : ∀ w ∈ u_ws RX9 TX9 26, w ∈ wsX9_fewest := fun _ h => List.mem_cons_of_mem _ (List.mem_append_right _ (h))
  have hl := lv_entry ([.ref mo, .int xa, .int xb, .int xu, .int xk]) (n := 6) (Nat.le_of_ble_eq_true rfl)
  rw [lg_entry_eq]
  generalize (lg_sl ([.ref mo, .int xa, .int xb, .int xu, .int xk]) ++ List.replicate (6 - (lg_sl ([.ref mo, .int xa, .int xb, .int xu, .int xk])).length) Slot.unset).toArray = ls at hl ⊢
  have hl : lv_has ls 6 [(0, .ref mo), (1, .int xa), (2, .int xb), (3, .int xu), (4, .int xk)] := hl
  show W p l e ({ frames := 8, cells := 0, slots := 0, locals := 184 } : Room) s m (([.ref mo, .int xa, .int xb, .int xu, .int xk] : List Value).toArray) below meth c s.heap [] 0 0 (MQ below (va_Qi (fun (r : Int32) (u : Int32 × Int32 × (Nat → Int32) × (Nat → Int32) × (Nat → Int32) × (Nat → Int32) × (Nat → Int32) × (Nat → Int32) × Int32 × Int32 × Int32 × Int32 × Bool) => ((hasX (nS S) xa = false ∨ hasX (nS S) xb = false) ∧ u.1 = 1) ∨ (hasX (nS S) xa = true ∧ hasX (nS S) xb = true ∧ (isRunX xu = false ∨ xk < 0 ∨ 1 < xk) ∧ u.1 = 2) ∨ (∃ a9 b9 k9 : Nat, a9 < nS S ∧ b9 < nS S ∧ k9 ≤ 3 ∧ xa = nI a9 ∧ xb = nI b9 ∧ xu = nI k9 ∧ ¬ xk < 0 ∧ xk ≤ 1 ∧ u.1 = 0 ∧ r = dS S k9 a9 b9)) (fun (u : Int32 × Int32 × (Nat → Int32) × (Nat → Int32) × (Nat → Int32) × (Nat → Int32) × (Nat → Int32) × (Nat → Int32) × Int32 × Int32 × Int32 × Int32 × Bool) t => wq D A (oX9 mo zs zv (nI hn) zl zk zt vl u.1 zg zi zw u.2.1 zo ze u.2.2.2.2.2.2.2.2.1 u.2.2.2.2.2.2.2.2.2.1 u.2.2.2.2.2.2.2.2.2.2.1 u.2.2.2.2.2.2.2.2.2.2.2.1 (bI u.2.2.2.2.2.2.2.2.2.2.2.2) vp va vb vd vq zd vz :: aI cI zs 28 gs :: aI cI zg 200 u.2.2.1 :: aI cI zi 100 u.2.2.2.1 :: aI cI zw 100 u.2.2.2.2.1 :: aI cI zo 10000 u.2.2.2.2.2.1 :: aI cI ze 100 u.2.2.2.2.2.2.1 :: aZ cZ zd 100 u.2.2.2.2.2.2.2.1 :: X) t) A) (([.ref mo, .int xa, .int xb, .int xu, .int xk] : List Value).toArray) s 0 0 A) (F0 m 0 ls [])
  refine lv_aload_n hx hb dX9_fewest_0 rfl (lv_at hl 0 rfl) ?_
  refine lv_iload_n hx hb dX9_fewest_1 rfl (lv_at hl 1 rfl) ?_
  refine cV_i CF hK hN hA hS (cut_of 8 [0, 1, 2, 3, 4, 5, 6, 7] hP hD rfl rfl rfl) (n_isLedge l D cI cZ cW cJ A (aI cI ze 100 ge :: aZ cZ zd 100 gd :: X) mo zs zv zl zk zt zg zi zw zo ze zd (nI hn) vl vh vg vc vr vt vo vp va vb vd vq vm vz gs gg gi gw go S xa hS0 hWf) (cwV 1 hts gX9_fewest_X9_isLedge rfl rfl rfl (by decide +kernel) ⟨Nat.le_of_ble_eq_true rfl, Nat.le_of_ble_eq_true rfl⟩) (As := [.int xa]) (rest := []) (ci := 9) (q0 := 0) rfl rfl rfl hl.1 rfl (Nat.le_of_ble_eq_true rfl) dX9_fewest_2 ⟨Nat.le_of_ble_eq_true rfl, Nat.le_of_ble_eq_true rfl⟩ (fun r_2 u_2 H locs hq hP hD hS => ?_)
  have hq_2 : r_2 = bI (hasX (nS S) xa) ∧ MapM S u_2.1 u_2.2.1 u_2.2.2.1 ∧ RchM S u_2.2.2.2.1 := hq
  have hr_2 : r_2 = bI (hasX (nS S) xa) := hq_2.1
  subst hr_2
  have hP : va_P D vwCl (oX9 mo zs zv (nI hn) zl zk zt vl vh zg zi zw (nI (nS S)) zo ze u_2.2.2.2.2.1 u_2.2.2.2.2.2.1 u_2.2.2.2.2.2.2.1 u_2.2.2.2.2.2.2.2.1 (bI u_2.2.2.2.2.2.2.2.2) vp va vb vd vq zd vz :: aI cI zs 28 gs :: aI cI zg 200 u_2.1 :: aI cI zi 100 u_2.2.1 :: aI cI zw 100 u_2.2.2.1 :: aI cI zo 10000 u_2.2.2.2.1 :: aI cI ze 100 ge :: aZ cZ zd 100 gd :: X) H := pm_P hP 8 [0, 1, 2, 3, 4, 5, 6, 7] rfl
  have hD : va_D A (oX9 mo zs zv (nI hn) zl zk zt vl vh zg zi zw (nI (nS S)) zo ze u_2.2.2.2.2.1 u_2.2.2.2.2.2.1 u_2.2.2.2.2.2.2.1 u_2.2.2.2.2.2.2.2.1 (bI u_2.2.2.2.2.2.2.2.2) vp va vb vd vq zd vz :: aI cI zs 28 gs :: aI cI zg 200 u_2.1 :: aI cI zi 100 u_2.2.1 :: aI cI zw 100 u_2.2.2.1 :: aI cI zo 10000 u_2.2.2.2.1 :: aI cI ze 100 ge :: aZ cZ zd 100 gd :: X) := pm_D hD 8 [0, 1, 2, 3, 4, 5, 6, 7] rfl rfl rfl
  have hM : MapM S u_2.1 u_2.2.1 u_2.2.2.1 := hq_2.2.1
  have hR : RchM S u_2.2.2.2.1 := hq_2.2.2
  have hn9 : nS S ≤ 100 := nL_le _
  refine lv_if_eq (tgt := 26) hx hb dX9_fewest_5 (by decide) (fun c_5 => ?_) (fun c_5 => ?_)
  · refine lv_iconst (v := 0) hx hb dX9_fewest_26 (by decide) ?_
    refine lv_istore (lv' := [(5, .int 0), (0, .ref mo), (1, .int xa), (2, .int xb), (3, .int xu), (4, .int xk)]) hx hb dX9_fewest_27 hl (by decide) rfl (fun ls hl => ?_)
    refine lv_aload_n hx hb dX9_fewest_29 rfl (lv_at hl 1 rfl) ?_
    refine lv_iload hx hb dX9_fewest_30 (lv_at hl 0 rfl) ?_
    have c_32 : (0 : Int32) = 0 := by decide
    refine lv_if_ne (tgt := 39) hx hb dX9_fewest_32 (by decide) (fun q => absurd c_32 q) (fun _ => ?_)
    refine lv_iconst (v := 1) hx hb dX9_fewest_35 (by decide) ?_
    refine lv_goto (tgt := 63) hx hb dX9_fewest_36 (by decide) ?_
    refine cV_i CF hK hN hA hS (cut_of 8 [0, 1, 2, 3, 4, 5, 6, 7] hP hD rfl rfl rfl) (n_holds l D cI cZ cW cJ A (aI cI zs 28 gs :: aI cI zg 200 u_2.1 :: aI cI zi 100 u_2.2.1 :: aI cI zw 100 u_2.2.2.1 :: aI cI zo 10000 u_2.2.2.2.1 :: aI cI ze 100 ge :: aZ cZ zd 100 gd :: X) mo zs zv zl zk zt zg zi zw zo ze zd (nI hn) vl vh (nI (nS S)) u_2.2.2.2.2.1 u_2.2.2.2.2.2.1 u_2.2.2.2.2.2.2.1 u_2.2.2.2.2.2.2.2.1 vp va vb vd vq u_2.2.2.2.2.2.2.2.2 vz 1) (cwV 1 hts gX9_fewest_X9_holds rfl rfl rfl (by decide +kernel) ⟨Nat.le_of_ble_eq_true rfl, Nat.le_of_ble_eq_true rfl⟩) (As := [.int 1]) (rest := []) (ci := 9) (q0 := 0) rfl rfl rfl hl.1 rfl (Nat.le_of_ble_eq_true rfl) dX9_fewest_63 ⟨Nat.le_of_ble_eq_true rfl, Nat.le_of_ble_eq_true rfl⟩ (fun r_63 _ H locs hq hP hD hS => ?_)
    have hq : r_63 = bI (decide ((1 : Int32) = 0)) := hq
    subst hq
    have hP : va_P D vwCl (oX9 mo zs zv (nI hn) zl zk zt vl 1 zg zi zw (nI (nS S)) zo ze u_2.2.2.2.2.1 u_2.2.2.2.2.2.1 u_2.2.2.2.2.2.2.1 u_2.2.2.2.2.2.2.2.1 (bI u_2.2.2.2.2.2.2.2.2) vp va vb vd vq zd vz :: aI cI zs 28 gs :: aI cI zg 200 u_2.1 :: aI cI zi 100 u_2.2.1 :: aI cI zw 100 u_2.2.2.1 :: aI cI zo 10000 u_2.2.2.2.1 :: aI cI ze 100 ge :: aZ cZ zd 100 gd :: X) H := pm_P hP 8 [0, 1, 2, 3, 4, 5, 6, 7] rfl
    have hD : va_D A (oX9 mo zs zv (nI hn) zl zk zt vl 1 zg zi zw (nI (nS S)) zo ze u_2.2.2.2.2.1 u_2.2.2.2.2.2.1 u_2.2.2.2.2.2.2.1 u_2.2.2.2.2.2.2.2.1 (bI u_2.2.2.2.2.2.2.2.2) vp va vb vd vq zd vz :: aI cI zs 28 gs :: aI cI zg 200 u_2.1 :: aI cI zi 100 u_2.2.1 :: aI cI zw 100 u_2.2.2.1 :: aI cI zo 10000 u_2.2.2.2.1 :: aI cI ze 100 ge :: aZ cZ zd 100 gd :: X) := pm_D hD 8 [0, 1, 2, 3, 4, 5, 6, 7] rfl rfl rfl
    refine top_i (y := 0) (by decide) ?_
    have c_66 : (0 : Int32) = 0 := by decide
    refine lv_if_ne (tgt := 71) hx hb dX9_fewest_66 (by decide) (fun q => absurd c_66 q) (fun _ => ?_)
    refine lv_iconst (v := 0) hx hb dX9_fewest_69 (by decide) ?_
    exact W.iret (v := 0) hx hb hr (fun t9 ht9 hW9 => ⟨⟨0, (1, (nI (nS S)), u_2.1, u_2.2.1, u_2.2.2.1, u_2.2.2.2.1, ge, gd, u_2.2.2.2.2.1, u_2.2.2.2.2.2.1, u_2.2.2.2.2.2.2.1, u_2.2.2.2.2.2.2.2.1, u_2.2.2.2.2.2.2.2.2), rfl, Or.inl ⟨Or.inl (bf_c c_5), rfl⟩, by rw [ht9]; exact hP, hD⟩, hS.F ht9⟩) hS.2.2 dX9_fewest_70
  · refine lv_iload_n hx hb dX9_fewest_8 rfl (lv_at hl 2 rfl) ?_
    refine lv_iconst (v := 0) hx hb dX9_fewest_9 (by decide) ?_
    refine lv_aload_n hx hb dX9_fewest_10 rfl (lv_at hl 0 rfl) ?_
    refine va_get (D := D) (ci := 9) (v := .int (nI (nS S))) (C := RX9) (T := TX9) (N := 26) hx hb hts hiX9 hown hK hP 0 rfl rfl 11 (by decide) (hts (.fieldLink RX9 66 "LedgeLeapsModel" "ledges" "I") (List.mem_of_getElem? (i := 1) rfl)) (fun _ h9 => h9) rfl dX9_fewest_11 ?_
    refine lv_iconst (v := 1) hx hb dX9_fewest_14 (by decide) ?_
    refine lv_isub hx hb dX9_fewest_15 ?_
    refine cS_i CF hK hN hA hS (cut_of 8 [0, 1, 2, 3, 4, 5, 6, 7] hP hD rfl rfl rfl) (n_in l D cI cZ cW cJ A (oX9 mo zs zv (nI hn) zl zk zt vl vh zg zi zw (nI (nS S)) zo ze u_2.2.2.2.2.1 u_2.2.2.2.2.2.1 u_2.2.2.2.2.2.2.1 u_2.2.2.2.2.2.2.2.1 (bI u_2.2.2.2.2.2.2.2.2) vp va vb vd vq zd vz :: aI cI zs 28 gs :: aI cI zg 200 u_2.1 :: aI cI zi 100 u_2.2.1 :: aI cI zw 100 u_2.2.2.1 :: aI cI zo 10000 u_2.2.2.2.1 :: aI cI ze 100 ge :: aZ cZ zd 100 gd :: X) xb 0 ((nI (nS S)) - 1)) (va_cwS 3 hts gX9_fewest_X9_in rfl rfl rfl (by decide +kernel) ⟨Nat.le_of_ble_eq_true rfl, Nat.le_of_ble_eq_true rfl⟩) (As := [.int xb, .int 0, .int ((nI (nS S)) - 1)]) (rest := []) rfl hl.1 rfl (Nat.le_of_ble_eq_true rfl) dX9_fewest_16 ⟨Nat.le_of_ble_eq_true rfl, Nat.le_of_ble_eq_true rfl⟩ (fun r_16 _ H locs hq hP hD hS => ?_)
    have hq : r_16 = bI (inX xb 0 ((nI (nS S)) - 1)) := hq
    subst hq
    have hP : va_P D vwCl (oX9 mo zs zv (nI hn) zl zk zt vl vh zg zi zw (nI (nS S)) zo ze u_2.2.2.2.2.1 u_2.2.2.2.2.2.1 u_2.2.2.2.2.2.2.1 u_2.2.2.2.2.2.2.2.1 (bI u_2.2.2.2.2.2.2.2.2) vp va vb vd vq zd vz :: aI cI zs 28 gs :: aI cI zg 200 u_2.1 :: aI cI zi 100 u_2.2.1 :: aI cI zw 100 u_2.2.2.1 :: aI cI zo 10000 u_2.2.2.2.1 :: aI cI ze 100 ge :: aZ cZ zd 100 gd :: X) H := pm_P hP 8 [0, 1, 2, 3, 4, 5, 6, 7] rfl
    have hD : va_D A (oX9 mo zs zv (nI hn) zl zk zt vl vh zg zi zw (nI (nS S)) zo ze u_2.2.2.2.2.1 u_2.2.2.2.2.2.1 u_2.2.2.2.2.2.2.1 u_2.2.2.2.2.2.2.2.1 (bI u_2.2.2.2.2.2.2.2.2) vp va vb vd vq zd vz :: aI cI zs 28 gs :: aI cI zg 200 u_2.1 :: aI cI zi 100 u_2.2.1 :: aI cI zw 100 u_2.2.2.1 :: aI cI zo 10000 u_2.2.2.2.1 :: aI cI ze 100 ge :: aZ cZ zd 100 gd :: X) := pm_D hD 8 [0, 1, 2, 3, 4, 5, 6, 7] rfl rfl rfl
    refine lv_if_eq (tgt := 26) hx hb dX9_fewest_19 (by decide) (fun c_19 => ?_) (fun c_19 => ?_)
    · refine lv_iconst (v := 0) hx hb dX9_fewest_26 (by decide) ?_
      refine lv_istore (lv' := [(5, .int 0), (0, .ref mo), (1, .int xa), (2, .int xb), (3, .int xu), (4, .int xk)]) hx hb dX9_fewest_27 hl (by decide) rfl (fun ls hl => ?_)
      refine lv_aload_n hx hb dX9_fewest_29 rfl (lv_at hl 1 rfl) ?_
      refine lv_iload hx hb dX9_fewest_30 (lv_at hl 0 rfl) ?_
      have c_32 : (0 : Int32) = 0 := by decide
      refine lv_if_ne (tgt := 39) hx hb dX9_fewest_32 (by decide) (fun q => absurd c_32 q) (fun _ => ?_)
      refine lv_iconst (v := 1) hx hb dX9_fewest_35 (by decide) ?_
      refine lv_goto (tgt := 63) hx hb dX9_fewest_36 (by decide) ?_
      refine cV_i CF hK hN hA hS (cut_of 8 [0, 1, 2, 3, 4, 5, 6, 7] hP hD rfl rfl rfl) (n_holds l D cI cZ cW cJ A (aI cI zs 28 gs :: aI cI zg 200 u_2.1 :: aI cI zi 100 u_2.2.1 :: aI cI zw 100 u_2.2.2.1 :: aI cI zo 10000 u_2.2.2.2.1 :: aI cI ze 100 ge :: aZ cZ zd 100 gd :: X) mo zs zv zl zk zt zg zi zw zo ze zd (nI hn) vl vh (nI (nS S)) u_2.2.2.2.2.1 u_2.2.2.2.2.2.1 u_2.2.2.2.2.2.2.1 u_2.2.2.2.2.2.2.2.1 vp va vb vd vq u_2.2.2.2.2.2.2.2.2 vz 1) (cwV 1 hts gX9_fewest_X9_holds rfl rfl rfl (by decide +kernel) ⟨Nat.le_of_ble_eq_true rfl, Nat.le_of_ble_eq_true rfl⟩) (As := [.int 1]) (rest := []) (ci := 9) (q0 := 0) rfl rfl rfl hl.1 rfl (Nat.le_of_ble_eq_true rfl) dX9_fewest_63 ⟨Nat.le_of_ble_eq_true rfl, Nat.le_of_ble_eq_true rfl⟩ (fun r_63 _ H locs hq hP hD hS => ?_)
      have hq : r_63 = bI (decide ((1 : Int32) = 0)) := hq
      subst hq
      have hP : va_P D vwCl (oX9 mo zs zv (nI hn) zl zk zt vl 1 zg zi zw (nI (nS S)) zo ze u_2.2.2.2.2.1 u_2.2.2.2.2.2.1 u_2.2.2.2.2.2.2.1 u_2.2.2.2.2.2.2.2.1 (bI u_2.2.2.2.2.2.2.2.2) vp va vb vd vq zd vz :: aI cI zs 28 gs :: aI cI zg 200 u_2.1 :: aI cI zi 100 u_2.2.1 :: aI cI zw 100 u_2.2.2.1 :: aI cI zo 10000 u_2.2.2.2.1 :: aI cI ze 100 ge :: aZ cZ zd 100 gd :: X) H := pm_P hP 8 [0, 1, 2, 3, 4, 5, 6, 7] rfl
      have hD : va_D A (oX9 mo zs zv (nI hn) zl zk zt vl 1 zg zi zw (nI (nS S)) zo ze u_2.2.2.2.2.1 u_2.2.2.2.2.2.1 u_2.2.2.2.2.2.2.1 u_2.2.2.2.2.2.2.2.1 (bI u_2.2.2.2.2.2.2.2.2) vp va vb vd vq zd vz :: aI cI zs 28 gs :: aI cI zg 200 u_2.1 :: aI cI zi 100 u_2.2.1 :: aI cI zw 100 u_2.2.2.1 :: aI cI zo 10000 u_2.2.2.2.1 :: aI cI ze 100 ge :: aZ cZ zd 100 gd :: X) := pm_D hD 8 [0, 1, 2, 3, 4, 5, 6, 7] rfl rfl rfl
      refine top_i (y := 0) (by decide) ?_
      have c_66 : (0 : Int32) = 0 := by decide
      refine lv_if_ne (tgt := 71) hx hb dX9_fewest_66 (by decide) (fun q => absurd c_66 q) (fun _ => ?_)
      refine lv_iconst (v := 0) hx hb dX9_fewest_69 (by decide) ?_
      exact W.iret (v := 0) hx hb hr (fun t9 ht9 hW9 => ⟨⟨0, (1, (nI (nS S)), u_2.1, u_2.2.1, u_2.2.2.1, u_2.2.2.2.1, ge, gd, u_2.2.2.2.2.1, u_2.2.2.2.2.2.1, u_2.2.2.2.2.2.2.1, u_2.2.2.2.2.2.2.2.1, u_2.2.2.2.2.2.2.2.2), rfl, Or.inl ⟨Or.inr (by rw [← in_led hWf]; exact bf_c c_19), rfl⟩, by rw [ht9]; exact hP, hD⟩, hS.F ht9⟩) hS.2.2 dX9_fewest_70
    · refine lv_iconst (v := 1) hx hb dX9_fewest_22 (by decide) ?_
      refine lv_goto (tgt := 27) hx hb dX9_fewest_23 (by decide) ?_
      refine lv_istore (lv' := [(5, .int 1), (0, .ref mo), (1, .int xa), (2, .int xb), (3, .int xu), (4, .int xk)]) hx hb dX9_fewest_27 hl (by decide) rfl (fun ls hl => ?_)
      refine lv_aload_n hx hb dX9_fewest_29 rfl (lv_at hl 1 rfl) ?_
      refine lv_iload hx hb dX9_fewest_30 (lv_at hl 0 rfl) ?_
      have c_32 : ¬ (1 : Int32) = 0 := by decide
      refine lv_if_ne (tgt := 39) hx hb dX9_fewest_32 (by decide) (fun _ => ?_) (fun q => absurd q c_32)
      refine lv_iload_n hx hb dX9_fewest_39 rfl (lv_at hl 4 rfl) ?_
      refine lv_iconst (v := 0) hx hb dX9_fewest_40 (by decide) ?_
      refine lv_iconst (v := 3) hx hb dX9_fewest_41 (by decide) ?_
      refine cS_i CF hK hN hA hS (cut_of 8 [0, 1, 2, 3, 4, 5, 6, 7] hP hD rfl rfl rfl) (n_in l D cI cZ cW cJ A (oX9 mo zs zv (nI hn) zl zk zt vl vh zg zi zw (nI (nS S)) zo ze u_2.2.2.2.2.1 u_2.2.2.2.2.2.1 u_2.2.2.2.2.2.2.1 u_2.2.2.2.2.2.2.2.1 (bI u_2.2.2.2.2.2.2.2.2) vp va vb vd vq zd vz :: aI cI zs 28 gs :: aI cI zg 200 u_2.1 :: aI cI zi 100 u_2.2.1 :: aI cI zw 100 u_2.2.2.1 :: aI cI zo 10000 u_2.2.2.2.1 :: aI cI ze 100 ge :: aZ cZ zd 100 gd :: X) xu 0 3) (va_cwS 3 hts gX9_fewest_X9_in rfl rfl rfl (by decide +kernel) ⟨Nat.le_of_ble_eq_true rfl, Nat.le_of_ble_eq_true rfl⟩) (As := [.int xu, .int 0, .int 3]) (rest := [.ref mo]) rfl hl.1 rfl (Nat.le_of_ble_eq_true rfl) dX9_fewest_42 ⟨Nat.le_of_ble_eq_true rfl, Nat.le_of_ble_eq_true rfl⟩ (fun r_42 _ H locs hq hP hD hS => ?_)
      have hq : r_42 = bI (inX xu 0 3) := hq
      subst hq
      have hP : va_P D vwCl (oX9 mo zs zv (nI hn) zl zk zt vl vh zg zi zw (nI (nS S)) zo ze u_2.2.2.2.2.1 u_2.2.2.2.2.2.1 u_2.2.2.2.2.2.2.1 u_2.2.2.2.2.2.2.2.1 (bI u_2.2.2.2.2.2.2.2.2) vp va vb vd vq zd vz :: aI cI zs 28 gs :: aI cI zg 200 u_2.1 :: aI cI zi 100 u_2.2.1 :: aI cI zw 100 u_2.2.2.1 :: aI cI zo 10000 u_2.2.2.2.1 :: aI cI ze 100 ge :: aZ cZ zd 100 gd :: X) H := pm_P hP 8 [0, 1, 2, 3, 4, 5, 6, 7] rfl
      have hD : va_D A (oX9 mo zs zv (nI hn) zl zk zt vl vh zg zi zw (nI (nS S)) zo ze u_2.2.2.2.2.1 u_2.2.2.2.2.2.1 u_2.2.2.2.2.2.2.1 u_2.2.2.2.2.2.2.2.1 (bI u_2.2.2.2.2.2.2.2.2) vp va vb vd vq zd vz :: aI cI zs 28 gs :: aI cI zg 200 u_2.1 :: aI cI zi 100 u_2.2.1 :: aI cI zw 100 u_2.2.2.1 :: aI cI zo 10000 u_2.2.2.2.1 :: aI cI ze 100 ge :: aZ cZ zd 100 gd :: X) := pm_D hD 8 [0, 1, 2, 3, 4, 5, 6, 7] rfl rfl rfl
      refine lv_if_eq (tgt := 58) hx hb dX9_fewest_45 (by decide) (fun c_45 => ?_) (fun c_45 => ?_)
      · refine lv_iconst (v := 2) hx hb dX9_fewest_58 (by decide) ?_
        refine lv_goto (tgt := 63) hx hb dX9_fewest_59 (by decide) ?_
        refine cV_i CF hK hN hA hS (cut_of 8 [0, 1, 2, 3, 4, 5, 6, 7] hP hD rfl rfl rfl) (n_holds l D cI cZ cW cJ A (aI cI zs 28 gs :: aI cI zg 200 u_2.1 :: aI cI zi 100 u_2.2.1 :: aI cI zw 100 u_2.2.2.1 :: aI cI zo 10000 u_2.2.2.2.1 :: aI cI ze 100 ge :: aZ cZ zd 100 gd :: X) mo zs zv zl zk zt zg zi zw zo ze zd (nI hn) vl vh (nI (nS S)) u_2.2.2.2.2.1 u_2.2.2.2.2.2.1 u_2.2.2.2.2.2.2.1 u_2.2.2.2.2.2.2.2.1 vp va vb vd vq u_2.2.2.2.2.2.2.2.2 vz 2) (cwV 1 hts gX9_fewest_X9_holds rfl rfl rfl (by decide +kernel) ⟨Nat.le_of_ble_eq_true rfl, Nat.le_of_ble_eq_true rfl⟩) (As := [.int 2]) (rest := []) (ci := 9) (q0 := 0) rfl rfl rfl hl.1 rfl (Nat.le_of_ble_eq_true rfl) dX9_fewest_63 ⟨Nat.le_of_ble_eq_true rfl, Nat.le_of_ble_eq_true rfl⟩ (fun r_63 _ H locs hq hP hD hS => ?_)
        have hq : r_63 = bI (decide ((2 : Int32) = 0)) := hq
        subst hq
        have hP : va_P D vwCl (oX9 mo zs zv (nI hn) zl zk zt vl 2 zg zi zw (nI (nS S)) zo ze u_2.2.2.2.2.1 u_2.2.2.2.2.2.1 u_2.2.2.2.2.2.2.1 u_2.2.2.2.2.2.2.2.1 (bI u_2.2.2.2.2.2.2.2.2) vp va vb vd vq zd vz :: aI cI zs 28 gs :: aI cI zg 200 u_2.1 :: aI cI zi 100 u_2.2.1 :: aI cI zw 100 u_2.2.2.1 :: aI cI zo 10000 u_2.2.2.2.1 :: aI cI ze 100 ge :: aZ cZ zd 100 gd :: X) H := pm_P hP 8 [0, 1, 2, 3, 4, 5, 6, 7] rfl
        have hD : va_D A (oX9 mo zs zv (nI hn) zl zk zt vl 2 zg zi zw (nI (nS S)) zo ze u_2.2.2.2.2.1 u_2.2.2.2.2.2.1 u_2.2.2.2.2.2.2.1 u_2.2.2.2.2.2.2.2.1 (bI u_2.2.2.2.2.2.2.2.2) vp va vb vd vq zd vz :: aI cI zs 28 gs :: aI cI zg 200 u_2.1 :: aI cI zi 100 u_2.2.1 :: aI cI zw 100 u_2.2.2.1 :: aI cI zo 10000 u_2.2.2.2.1 :: aI cI ze 100 ge :: aZ cZ zd 100 gd :: X) := pm_D hD 8 [0, 1, 2, 3, 4, 5, 6, 7] rfl rfl rfl
        refine top_i (y := 0) (by decide) ?_
        have c_66 : (0 : Int32) = 0 := by decide
        refine lv_if_ne (tgt := 71) hx hb dX9_fewest_66 (by decide) (fun q => absurd c_66 q) (fun _ => ?_)
        refine lv_iconst (v := 0) hx hb dX9_fewest_69 (by decide) ?_
        exact W.iret (v := 0) hx hb hr (fun t9 ht9 hW9 => ⟨⟨0, (2, (nI (nS S)), u_2.1, u_2.2.1, u_2.2.2.1, u_2.2.2.2.1, ge, gd, u_2.2.2.2.2.1, u_2.2.2.2.2.2.1, u_2.2.2.2.2.2.2.1, u_2.2.2.2.2.2.2.2.1, u_2.2.2.2.2.2.2.2.2), rfl, Or.inr (Or.inl ⟨bt_c c_5, by rw [← in_led hWf]; exact bt_c c_19, Or.inl (bf_c c_45), rfl⟩), by rw [ht9]; exact hP, hD⟩, hS.F ht9⟩) hS.2.2 dX9_fewest_70
      · refine lv_iload hx hb dX9_fewest_48 (lv_at hl 5 rfl) ?_
        refine lv_iconst (v := 0) hx hb dX9_fewest_50 (by decide) ?_
        refine lv_iconst (v := 1) hx hb dX9_fewest_51 (by decide) ?_
        refine cS_i CF hK hN hA hS (cut_of 8 [0, 1, 2, 3, 4, 5, 6, 7] hP hD rfl rfl rfl) (n_in l D cI cZ cW cJ A (oX9 mo zs zv (nI hn) zl zk zt vl vh zg zi zw (nI (nS S)) zo ze u_2.2.2.2.2.1 u_2.2.2.2.2.2.1 u_2.2.2.2.2.2.2.1 u_2.2.2.2.2.2.2.2.1 (bI u_2.2.2.2.2.2.2.2.2) vp va vb vd vq zd vz :: aI cI zs 28 gs :: aI cI zg 200 u_2.1 :: aI cI zi 100 u_2.2.1 :: aI cI zw 100 u_2.2.2.1 :: aI cI zo 10000 u_2.2.2.2.1 :: aI cI ze 100 ge :: aZ cZ zd 100 gd :: X) xk 0 1) (va_cwS 3 hts gX9_fewest_X9_in rfl rfl rfl (by decide +kernel) ⟨Nat.le_of_ble_eq_true rfl, Nat.le_of_ble_eq_true rfl⟩) (As := [.int xk, .int 0, .int 1]) (rest := [.ref mo]) rfl hl.1 rfl (Nat.le_of_ble_eq_true rfl) dX9_fewest_52 ⟨Nat.le_of_ble_eq_true rfl, Nat.le_of_ble_eq_true rfl⟩ (fun r_52 _ H locs hq hP hD hS => ?_)
        have hq : r_52 = bI (inX xk 0 1) := hq
        subst hq
        have hP : va_P D vwCl (oX9 mo zs zv (nI hn) zl zk zt vl vh zg zi zw (nI (nS S)) zo ze u_2.2.2.2.2.1 u_2.2.2.2.2.2.1 u_2.2.2.2.2.2.2.1 u_2.2.2.2.2.2.2.2.1 (bI u_2.2.2.2.2.2.2.2.2) vp va vb vd vq zd vz :: aI cI zs 28 gs :: aI cI zg 200 u_2.1 :: aI cI zi 100 u_2.2.1 :: aI cI zw 100 u_2.2.2.1 :: aI cI zo 10000 u_2.2.2.2.1 :: aI cI ze 100 ge :: aZ cZ zd 100 gd :: X) H := pm_P hP 8 [0, 1, 2, 3, 4, 5, 6, 7] rfl
        have hD : va_D A (oX9 mo zs zv (nI hn) zl zk zt vl vh zg zi zw (nI (nS S)) zo ze u_2.2.2.2.2.1 u_2.2.2.2.2.2.1 u_2.2.2.2.2.2.2.1 u_2.2.2.2.2.2.2.2.1 (bI u_2.2.2.2.2.2.2.2.2) vp va vb vd vq zd vz :: aI cI zs 28 gs :: aI cI zg 200 u_2.1 :: aI cI zi 100 u_2.2.1 :: aI cI zw 100 u_2.2.2.1 :: aI cI zo 10000 u_2.2.2.2.1 :: aI cI ze 100 ge :: aZ cZ zd 100 gd :: X) := pm_D hD 8 [0, 1, 2, 3, 4, 5, 6, 7] rfl rfl rfl
        refine lv_if_ne (tgt := 62) hx hb dX9_fewest_55 (by decide) (fun c_55 => ?_) (fun c_55 => ?_)
        · refine lv_iconst (v := 0) hx hb dX9_fewest_62 (by decide) ?_
          refine cV_i CF hK hN hA hS (cut_of 8 [0, 1, 2, 3, 4, 5, 6, 7] hP hD rfl rfl rfl) (n_holds l D cI cZ cW cJ A (aI cI zs 28 gs :: aI cI zg 200 u_2.1 :: aI cI zi 100 u_2.2.1 :: aI cI zw 100 u_2.2.2.1 :: aI cI zo 10000 u_2.2.2.2.1 :: aI cI ze 100 ge :: aZ cZ zd 100 gd :: X) mo zs zv zl zk zt zg zi zw zo ze zd (nI hn) vl vh (nI (nS S)) u_2.2.2.2.2.1 u_2.2.2.2.2.2.1 u_2.2.2.2.2.2.2.1 u_2.2.2.2.2.2.2.2.1 vp va vb vd vq u_2.2.2.2.2.2.2.2.2 vz 0) (cwV 1 hts gX9_fewest_X9_holds rfl rfl rfl (by decide +kernel) ⟨Nat.le_of_ble_eq_true rfl, Nat.le_of_ble_eq_true rfl⟩) (As := [.int 0]) (rest := []) (ci := 9) (q0 := 0) rfl rfl rfl hl.1 rfl (Nat.le_of_ble_eq_true rfl) dX9_fewest_63 ⟨Nat.le_of_ble_eq_true rfl, Nat.le_of_ble_eq_true rfl⟩ (fun r_63 _ H locs hq hP hD hS => ?_)
          have hq : r_63 = bI (decide ((0 : Int32) = 0)) := hq
          subst hq
          have hP : va_P D vwCl (oX9 mo zs zv (nI hn) zl zk zt vl 0 zg zi zw (nI (nS S)) zo ze u_2.2.2.2.2.1 u_2.2.2.2.2.2.1 u_2.2.2.2.2.2.2.1 u_2.2.2.2.2.2.2.2.1 (bI u_2.2.2.2.2.2.2.2.2) vp va vb vd vq zd vz :: aI cI zs 28 gs :: aI cI zg 200 u_2.1 :: aI cI zi 100 u_2.2.1 :: aI cI zw 100 u_2.2.2.1 :: aI cI zo 10000 u_2.2.2.2.1 :: aI cI ze 100 ge :: aZ cZ zd 100 gd :: X) H := pm_P hP 8 [0, 1, 2, 3, 4, 5, 6, 7] rfl
          have hD : va_D A (oX9 mo zs zv (nI hn) zl zk zt vl 0 zg zi zw (nI (nS S)) zo ze u_2.2.2.2.2.1 u_2.2.2.2.2.2.1 u_2.2.2.2.2.2.2.1 u_2.2.2.2.2.2.2.2.1 (bI u_2.2.2.2.2.2.2.2.2) vp va vb vd vq zd vz :: aI cI zs 28 gs :: aI cI zg 200 u_2.1 :: aI cI zi 100 u_2.2.1 :: aI cI zw 100 u_2.2.2.1 :: aI cI zo 10000 u_2.2.2.2.1 :: aI cI ze 100 ge :: aZ cZ zd 100 gd :: X) := pm_D hD 8 [0, 1, 2, 3, 4, 5, 6, 7] rfl rfl rfl
          refine top_i (y := 1) (by decide) ?_
          have c_66 : ¬ (1 : Int32) = 0 := by decide
          refine lv_if_ne (tgt := 71) hx hb dX9_fewest_66 (by decide) (fun _ => ?_) (fun q => absurd q c_66)
          obtain ⟨a9, ha9, e1⟩ := hasX_nI (n := nS S) (by omega) (bt_c c_5)
          obtain ⟨b9, hb9, e2⟩ := hasX_nI (n := nS S) (x := xb) (by omega) (by rw [← in_led hWf]; exact bt_c c_19)
          obtain ⟨k9, hk9, e3⟩ := isRun_nI (bt_c c_45)
          refine lv_aload_n hx hb dX9_fewest_71 rfl (lv_at hl 1 rfl) ?_
          refine lv_iload_n hx hb dX9_fewest_72 rfl (lv_at hl 2 rfl) ?_
          refine top_i (y := (nI a9)) e1 ?_
          refine lv_iload_n hx hb dX9_fewest_73 rfl (lv_at hl 4 rfl) ?_
          refine top_i (y := (nI k9)) e3 ?_
          refine cV_v CF hK hN hA hS (cut_of 8 [0, 5, 6, 1, 2, 3, 4, 7] hP hD rfl rfl rfl) (n_spread l D cI cZ cW cJ A (aI cI zs 28 gs :: aI cI zg 200 u_2.1 :: aI cI zi 100 u_2.2.1 :: aI cI zw 100 u_2.2.2.1 :: aZ cZ zd 100 gd :: X) mo zs zv zl zk zt zg zi zw zo ze zd (nI hn) vl 0 u_2.2.2.2.2.1 u_2.2.2.2.2.2.1 u_2.2.2.2.2.2.2.1 u_2.2.2.2.2.2.2.2.1 vp va vb vd vq u_2.2.2.2.2.2.2.2.2 vz u_2.2.2.2.1 ge S a9 k9 hR ha9 hk9) (cwV 2 hts gX9_fewest_X9_spread rfl rfl rfl (by decide +kernel) ⟨Nat.le_of_ble_eq_true rfl, Nat.le_of_ble_eq_true rfl⟩) (As := [.int (nI a9), .int (nI k9)]) (rest := []) (ci := 9) (q0 := 0) rfl rfl rfl hl.1 rfl (Nat.le_of_ble_eq_true rfl) dX9_fewest_74 ⟨Nat.le_of_ble_eq_true rfl, Nat.le_of_ble_eq_true rfl⟩ (fun u_74 H locs hq hP hD hS => ?_)
          have hq_74 : ∀ b, b < nS S → u_74 b = dS S k9 a9 b := hq
          have hP : va_P D vwCl (oX9 mo zs zv (nI hn) zl zk zt vl 0 zg zi zw (nI (nS S)) zo ze u_2.2.2.2.2.1 u_2.2.2.2.2.2.1 u_2.2.2.2.2.2.2.1 u_2.2.2.2.2.2.2.2.1 (bI u_2.2.2.2.2.2.2.2.2) vp va vb vd vq zd vz :: aI cI zs 28 gs :: aI cI zg 200 u_2.1 :: aI cI zi 100 u_2.2.1 :: aI cI zw 100 u_2.2.2.1 :: aI cI zo 10000 u_2.2.2.2.1 :: aI cI ze 100 u_74 :: aZ cZ zd 100 gd :: X) H := pm_P hP 8 [0, 3, 4, 5, 6, 1, 2, 7] rfl
          have hD : va_D A (oX9 mo zs zv (nI hn) zl zk zt vl 0 zg zi zw (nI (nS S)) zo ze u_2.2.2.2.2.1 u_2.2.2.2.2.2.1 u_2.2.2.2.2.2.2.1 u_2.2.2.2.2.2.2.2.1 (bI u_2.2.2.2.2.2.2.2.2) vp va vb vd vq zd vz :: aI cI zs 28 gs :: aI cI zg 200 u_2.1 :: aI cI zi 100 u_2.2.1 :: aI cI zw 100 u_2.2.2.1 :: aI cI zo 10000 u_2.2.2.2.1 :: aI cI ze 100 u_74 :: aZ cZ zd 100 gd :: X) := pm_D hD 8 [0, 3, 4, 5, 6, 1, 2, 7] rfl rfl rfl
          refine lv_aload_n hx hb dX9_fewest_77 rfl (lv_at hl 1 rfl) ?_
          refine va_get (D := D) (ci := 9) (v := .ref ze) (C := RX9) (T := TX9) (N := 26) hx hb hts hiX9 hown hK hP 0 rfl rfl 13 (by decide) (hts (.fieldLink RX9 38 "LedgeLeapsModel" "fewest" "[I") (List.mem_of_getElem? (i := 2) rfl)) (fun _ h9 => h9) rfl dX9_fewest_78 ?_
          refine lv_iload_n hx hb dX9_fewest_81 rfl (lv_at hl 3 rfl) ?_
          refine top_i (y := (nI b9)) e2 ?_
          refine va_iald hx hb hK hP 6 0 rfl rfl (vp_ix (e := b9) (rfl) (by omega) (by decide)) dX9_fewest_82 ?_
          refine top_i (y := (u_74 b9)) (ld_ix (f := u_74) (x := (nI b9)) (e := b9) (n := 100) (rfl) (by omega) (by decide)) ?_
          exact W.iret (v := (u_74 b9)) hx hb hr (fun t9 ht9 hW9 => ⟨⟨(u_74 b9), (0, (nI (nS S)), u_2.1, u_2.2.1, u_2.2.2.1, u_2.2.2.2.1, u_74, gd, u_2.2.2.2.2.1, u_2.2.2.2.2.2.1, u_2.2.2.2.2.2.2.1, u_2.2.2.2.2.2.2.2.1, u_2.2.2.2.2.2.2.2.2), rfl, Or.inr (Or.inr ⟨a9, b9, k9, ha9, hb9, hk9, e1, e2, e3, (in_lh (bt_c c_55)).1, Int32.not_lt.mp (in_lh (bt_c c_55)).2, rfl, hq_74 b9 hb9⟩), by rw [ht9]; exact hP, hD⟩, hS.F ht9⟩) hS.2.2 dX9_fewest_83
        · refine lv_iconst (v := 2) hx hb dX9_fewest_58 (by decide) ?_
          refine lv_goto (tgt := 63) hx hb dX9_fewest_59 (by decide) ?_
          refine cV_i CF hK hN hA hS (cut_of 8 [0, 1, 2, 3, 4, 5, 6, 7] hP hD rfl rfl rfl) (n_holds l D cI cZ cW cJ A (aI cI zs 28 gs :: aI cI zg 200 u_2.1 :: aI cI zi 100 u_2.2.1 :: aI cI zw 100 u_2.2.2.1 :: aI cI zo 10000 u_2.2.2.2.1 :: aI cI ze 100 ge :: aZ cZ zd 100 gd :: X) mo zs zv zl zk zt zg zi zw zo ze zd (nI hn) vl vh (nI (nS S)) u_2.2.2.2.2.1 u_2.2.2.2.2.2.1 u_2.2.2.2.2.2.2.1 u_2.2.2.2.2.2.2.2.1 vp va vb vd vq u_2.2.2.2.2.2.2.2.2 vz 2) (cwV 1 hts gX9_fewest_X9_holds rfl rfl rfl (by decide +kernel) ⟨Nat.le_of_ble_eq_true rfl, Nat.le_of_ble_eq_true rfl⟩) (As := [.int 2]) (rest := []) (ci := 9) (q0 := 0) rfl rfl rfl hl.1 rfl (Nat.le_of_ble_eq_true rfl) dX9_fewest_63 ⟨Nat.le_of_ble_eq_true rfl, Nat.le_of_ble_eq_true rfl⟩ (fun r_63 _ H locs hq hP hD hS => ?_)
          have hq : r_63 = bI (decide ((2 : Int32) = 0)) := hq
          subst hq
          have hP : va_P D vwCl (oX9 mo zs zv (nI hn) zl zk zt vl 2 zg zi zw (nI (nS S)) zo ze u_2.2.2.2.2.1 u_2.2.2.2.2.2.1 u_2.2.2.2.2.2.2.1 u_2.2.2.2.2.2.2.2.1 (bI u_2.2.2.2.2.2.2.2.2) vp va vb vd vq zd vz :: aI cI zs 28 gs :: aI cI zg 200 u_2.1 :: aI cI zi 100 u_2.2.1 :: aI cI zw 100 u_2.2.2.1 :: aI cI zo 10000 u_2.2.2.2.1 :: aI cI ze 100 ge :: aZ cZ zd 100 gd :: X) H := pm_P hP 8 [0, 1, 2, 3, 4, 5, 6, 7] rfl
          have hD : va_D A (oX9 mo zs zv (nI hn) zl zk zt vl 2 zg zi zw (nI (nS S)) zo ze u_2.2.2.2.2.1 u_2.2.2.2.2.2.1 u_2.2.2.2.2.2.2.1 u_2.2.2.2.2.2.2.2.1 (bI u_2.2.2.2.2.2.2.2.2) vp va vb vd vq zd vz :: aI cI zs 28 gs :: aI cI zg 200 u_2.1 :: aI cI zi 100 u_2.2.1 :: aI cI zw 100 u_2.2.2.1 :: aI cI zo 10000 u_2.2.2.2.1 :: aI cI ze 100 ge :: aZ cZ zd 100 gd :: X) := pm_D hD 8 [0, 1, 2, 3, 4, 5, 6, 7] rfl rfl rfl
          refine top_i (y := 0) (by decide) ?_
          have c_66 : (0 : Int32) = 0 := by decide
          refine lv_if_ne (tgt := 71) hx hb dX9_fewest_66 (by decide) (fun q => absurd c_66 q) (fun _ => ?_)
          refine lv_iconst (v := 0) hx hb dX9_fewest_69 (by decide) ?_
          exact W.iret (v := 0) hx hb hr (fun t9 ht9 hW9 => ⟨⟨0, (2, (nI (nS S)), u_2.1, u_2.2.1, u_2.2.2.1, u_2.2.2.2.1, ge, gd, u_2.2.2.2.2.1, u_2.2.2.2.2.2.1, u_2.2.2.2.2.2.2.1, u_2.2.2.2.2.2.2.2.1, u_2.2.2.2.2.2.2.2.2), rfl, Or.inr (Or.inl ⟨bt_c c_5, by rw [← in_led hWf]; exact bt_c c_19, Or.inr (out_lh (bf_c c_55)), rfl⟩), by rw [ht9]; exact hP, hD⟩, hS.F ht9⟩) hS.2.2 dX9_fewest_70
set_option maxHeartbeats 4000000 in
set_option maxRecDepth 100000 in
theorem n_onlyRunning (l : Launch) (D : va_G) (cI cZ cW cJ : ClassId) (A : Nat → Prop) (X : va_W) (mo zs zv zl zk zt zg zi zw zo ze zd : Nat) (vl vh vg vc vr vt vo vp va vb vd vq : Int32) (vm : Bool) (vz : Int64) (hn : Nat) (gs gg gi gw go ge gd : Nat → Int32) (S : KS) (xk : Int32) (hS0 : AbsM S gs) (hWf : Wf S) : Met l yX9_onlyRunning wsX9_onlyRunning ({ frames := 7, cells := 0, slots := 0, locals := 163 }) (va_Pc [.ref mo, .int xk] (wd D (tyL cI cZ cW cJ) A (oX9 mo zs zv (nI hn) zl zk zt vl vh zg zi zw vg zo ze vc vr vt vo (bI vm) vp va vb vd vq zd vz :: aI cI zs 28 gs :: aI cI zg 200 gg :: aI cI zi 100 gi :: aI cI zw 100 gw :: aI cI zo 10000 go :: aI cI ze 100 ge :: aZ cZ zd 100 gd :: X))) (va_Qi (fun (r : Int32) (u : Int32 × Int32 × (Nat → Int32) × (Nat → Int32) × (Nat → Int32) × (Nat → Int32) × (Nat → Int32) × (Nat → Int32) × Int32 × Int32 × Int32 × Int32 × Bool) => (xk < 0 ∧ u.1 = 1) ∨ (¬ xk < 0 ∧ u.1 = 0 ∧ r = onlyS S xk)) (fun (u : Int32 × Int32 × (Nat → Int32) × (Nat → Int32) × (Nat → Int32) × (Nat → Int32) × (Nat → Int32) × (Nat → Int32) × Int32 × Int32 × Int32 × Int32 × Bool) t => wq D A (oX9 mo zs zv (nI hn) zl zk zt vl u.1 zg zi zw u.2.1 zo ze u.2.2.2.2.2.2.2.2.1 u.2.2.2.2.2.2.2.2.2.1 u.2.2.2.2.2.2.2.2.2.2.1 u.2.2.2.2.2.2.2.2.2.2.2.1 (bI u.2.2.2.2.2.2.2.2.2.2.2.2) vp va vb vd vq zd vz :: aI cI zs 28 gs :: aI cI zg 200 u.2.2.1 :: aI cI zi 100 u.2.2.2.1 :: aI cI zw 100 u.2.2.2.2.1 :: aI cI zo 10000 u.2.2.2.2.2.1 :: aI cI ze 100 u.2.2.2.2.2.2.1 :: aZ cZ zd 100 u.2.2.2.2.2.2.2.1 :: X) t) A) 0 0 A := by
  refine Met.ofW (cc := cX9_onlyRunning) (maxL := 2) (ret := (some .int)) (by decide) rfl ?_
  intro p e s m args below meth c s₁ B hml hv
  obtain ⟨rfl, hsz9, hP, hK, hD, hN⟩ := hv
  have hx := B.exec
  have hb := B.bytes
  have hr := B.returns
  have hts := atoms_spec (ws := wsX9_onlyRunning) B.pre
  have hown : s.vm.findClass RX9 = some m.cls := findClass_of_methodNamed B.named
  have hlocks := B.notSynchronized
  have CF : CallFix p m c cX9_onlyRunning 2 s _ wsX9_onlyRunning RX9 := ⟨hx, hb, hml, hown, hts⟩
  have hA : ∀ q : Nat, s.heap.size ≤ q → A q := hsz9
  have hS : va_S A s.heap s.heap [] := va_S.rf
  have hl := lv_entry ([.ref mo, .int xk]) (n := 2) (Nat.le_of_ble_eq_true rfl)
  rw [lg_entry_eq]
  generalize (lg_sl ([.ref mo, .int xk]) ++ List.replicate (2 - (lg_sl ([.ref mo, .int xk])).length) Slot.unset).toArray = ls at hl ⊢
  have hl : lv_has ls 2 [(0, .ref mo), (1, .int xk)] := hl
  show W p l e ({ frames := 7, cells := 0, slots := 0, locals := 163 } : Room) s m (([.ref mo, .int xk] : List Value).toArray) below meth c s.heap [] 0 0 (MQ below (va_Qi (fun (r : Int32) (u : Int32 × Int32 × (Nat → Int32) × (Nat → Int32) × (Nat → Int32) × (Nat → Int32) × (Nat → Int32) × (Nat → Int32) × Int32 × Int32 × Int32 × Int32 × Bool) => (xk < 0 ∧ u.1 = 1) ∨ (¬ xk < 0 ∧ u.1 = 0 ∧ r = onlyS S xk)) (fun (u : Int32 × Int32 × (Nat → Int32) × (Nat → Int32) × (Nat → Int32) × (Nat → Int32) × (Nat → Int32) × (Nat → Int32) × Int32 × Int32 × Int32 × Int32 × Bool) t => wq D A (oX9 mo zs zv (nI hn) zl zk zt vl u.1 zg zi zw u.2.1 zo ze u.2.2.2.2.2.2.2.2.1 u.2.2.2.2.2.2.2.2.2.1 u.2.2.2.2.2.2.2.2.2.2.1 u.2.2.2.2.2.2.2.2.2.2.2.1 (bI u.2.2.2.2.2.2.2.2.2.2.2.2) vp va vb vd vq zd vz :: aI cI zs 28 gs :: aI cI zg 200 u.2.2.1 :: aI cI zi 100 u.2.2.2.1 :: aI cI zw 100 u.2.2.2.2.1 :: aI cI zo 10000 u.2.2.2.2.2.1 :: aI cI ze 100 u.2.2.2.2.2.2.1 :: aZ cZ zd 100 u.2.2.2.2.2.2.2.1 :: X) t) A) (([.ref mo, .int xk] : List Value).toArray) s 0 0 A) (F0 m 0 ls [])
  refine lv_aload_n hx hb dX9_onlyRunning_0 rfl (lv_at hl 0 rfl) ?_
  refine lv_iload_n hx hb dX9_onlyRunning_1 rfl (lv_at hl 1 rfl) ?_
  refine lv_if_ge (tgt := 9) hx hb dX9_onlyRunning_2 (by decide) (fun c_2 => ?_) (fun c_2 => ?_)
  · refine lv_iconst (v := 0) hx hb dX9_onlyRunning_9 (by decide) ?_
    refine cV_i CF hK hN hA hS (cut_of 8 [0, 1, 2, 3, 4, 5, 6, 7] hP hD rfl rfl rfl) (n_holds l D cI cZ cW cJ A (aI cI zs 28 gs :: aI cI zg 200 gg :: aI cI zi 100 gi :: aI cI zw 100 gw :: aI cI zo 10000 go :: aI cI ze 100 ge :: aZ cZ zd 100 gd :: X) mo zs zv zl zk zt zg zi zw zo ze zd (nI hn) vl vh vg vc vr vt vo vp va vb vd vq vm vz 0) (cwV 1 hts gX9_onlyRunning_X9_holds rfl rfl rfl (by decide +kernel) ⟨Nat.le_of_ble_eq_true rfl, Nat.le_of_ble_eq_true rfl⟩) (As := [.int 0]) (rest := []) (ci := 9) (q0 := 0) rfl rfl rfl hl.1 rfl (Nat.le_of_ble_eq_true rfl) dX9_onlyRunning_10 ⟨Nat.le_of_ble_eq_true rfl, Nat.le_of_ble_eq_true rfl⟩ (fun r_10 _ H locs hq hP hD hS => ?_)
    have hq : r_10 = bI (decide ((0 : Int32) = 0)) := hq
    subst hq
    have hP : va_P D vwCl (oX9 mo zs zv (nI hn) zl zk zt vl 0 zg zi zw vg zo ze vc vr vt vo (bI vm) vp va vb vd vq zd vz :: aI cI zs 28 gs :: aI cI zg 200 gg :: aI cI zi 100 gi :: aI cI zw 100 gw :: aI cI zo 10000 go :: aI cI ze 100 ge :: aZ cZ zd 100 gd :: X) H := pm_P hP 8 [0, 1, 2, 3, 4, 5, 6, 7] rfl
    have hD : va_D A (oX9 mo zs zv (nI hn) zl zk zt vl 0 zg zi zw vg zo ze vc vr vt vo (bI vm) vp va vb vd vq zd vz :: aI cI zs 28 gs :: aI cI zg 200 gg :: aI cI zi 100 gi :: aI cI zw 100 gw :: aI cI zo 10000 go :: aI cI ze 100 ge :: aZ cZ zd 100 gd :: X) := pm_D hD 8 [0, 1, 2, 3, 4, 5, 6, 7] rfl rfl rfl
    refine top_i (y := 1) (by decide) ?_
    have c_13 : ¬ (1 : Int32) = 0 := by decide
    refine lv_if_ne (tgt := 18) hx hb dX9_onlyRunning_13 (by decide) (fun _ => ?_) (fun q => absurd q c_13)
    refine lv_aload_n hx hb dX9_onlyRunning_18 rfl (lv_at hl 0 rfl) ?_
    refine cV_v CF hK hN hA hS (cut_of 8 [0, 1, 2, 3, 4, 5, 6, 7] hP hD rfl rfl rfl) (n_findReaches l D cI cZ cW cJ A (aI cI ze 100 ge :: aZ cZ zd 100 gd :: X) mo zs zv zl zk zt zg zi zw zo ze zd (nI hn) vl 0 vg vc vr vt vo vp va vb vd vq vm vz gs gg gi gw go S hS0 hWf) (cwV 0 hts gX9_onlyRunning_X9_findReaches rfl rfl rfl (by decide +kernel) ⟨Nat.le_of_ble_eq_true rfl, Nat.le_of_ble_eq_true rfl⟩) (As := []) (rest := []) (ci := 9) (q0 := 0) rfl rfl rfl hl.1 rfl (Nat.le_of_ble_eq_true rfl) dX9_onlyRunning_19 ⟨Nat.le_of_ble_eq_true rfl, Nat.le_of_ble_eq_true rfl⟩ (fun u_19 H locs hq hP hD hS => ?_)
    have hq_19 : MapM S u_19.1 u_19.2.1 u_19.2.2.1 ∧ RchM S u_19.2.2.2.1 := hq
    have hP : va_P D vwCl (oX9 mo zs zv (nI hn) zl zk zt vl 0 zg zi zw (nI (nS S)) zo ze u_19.2.2.2.2.1 u_19.2.2.2.2.2.1 u_19.2.2.2.2.2.2.1 u_19.2.2.2.2.2.2.2.1 (bI u_19.2.2.2.2.2.2.2.2) vp va vb vd vq zd vz :: aI cI zs 28 gs :: aI cI zg 200 u_19.1 :: aI cI zi 100 u_19.2.1 :: aI cI zw 100 u_19.2.2.1 :: aI cI zo 10000 u_19.2.2.2.1 :: aI cI ze 100 ge :: aZ cZ zd 100 gd :: X) H := pm_P hP 8 [0, 1, 2, 3, 4, 5, 6, 7] rfl
    have hD : va_D A (oX9 mo zs zv (nI hn) zl zk zt vl 0 zg zi zw (nI (nS S)) zo ze u_19.2.2.2.2.1 u_19.2.2.2.2.2.1 u_19.2.2.2.2.2.2.1 u_19.2.2.2.2.2.2.2.1 (bI u_19.2.2.2.2.2.2.2.2) vp va vb vd vq zd vz :: aI cI zs 28 gs :: aI cI zg 200 u_19.1 :: aI cI zi 100 u_19.2.1 :: aI cI zw 100 u_19.2.2.1 :: aI cI zo 10000 u_19.2.2.2.1 :: aI cI ze 100 ge :: aZ cZ zd 100 gd :: X) := pm_D hD 8 [0, 1, 2, 3, 4, 5, 6, 7] rfl rfl rfl
    have hM : MapM S u_19.1 u_19.2.1 u_19.2.2.1 := hq_19.1
    have hR : RchM S u_19.2.2.2.1 := hq_19.2
    refine lv_aload_n hx hb dX9_onlyRunning_22 rfl (lv_at hl 0 rfl) ?_
    refine lv_iload_n hx hb dX9_onlyRunning_23 rfl (lv_at hl 1 rfl) ?_
    refine cV_i CF hK hN hA hS (cut_of 8 [0, 1, 2, 3, 4, 5, 6, 7] hP hD rfl rfl rfl) (n_onlyTold l D cI cZ cW cJ A (X) mo zs zv zl zk zt zg zi zw zo ze zd (nI hn) vl 0 u_19.2.2.2.2.1 u_19.2.2.2.2.2.1 u_19.2.2.2.2.2.2.1 u_19.2.2.2.2.2.2.2.1 vp va vb vd vq u_19.2.2.2.2.2.2.2.2 vz gs u_19.1 u_19.2.1 u_19.2.2.1 u_19.2.2.2.1 ge gd S xk hS0 hWf hM hR) (cwV 1 hts gX9_onlyRunning_X9_onlyTold rfl rfl rfl (by decide +kernel) ⟨Nat.le_of_ble_eq_true rfl, Nat.le_of_ble_eq_true rfl⟩) (As := [.int xk]) (rest := []) (ci := 9) (q0 := 0) rfl rfl rfl hl.1 rfl (Nat.le_of_ble_eq_true rfl) dX9_onlyRunning_24 ⟨Nat.le_of_ble_eq_true rfl, Nat.le_of_ble_eq_true rfl⟩ (fun r_24 u_24 H locs hq hP hD hS => ?_)
    have hq_24 : r_24 = onlyS S xk ∧ True := hq
    have hr_24 : r_24 = onlyS S xk := hq_24.1
    subst hr_24
    have hP : va_P D vwCl (oX9 mo zs zv (nI hn) zl zk zt vl 0 zg zi zw (nI (nS S)) zo ze u_19.2.2.2.2.1 u_19.2.2.2.2.2.1 u_19.2.2.2.2.2.2.1 u_19.2.2.2.2.2.2.2.1 (bI u_19.2.2.2.2.2.2.2.2) vp va vb vd vq zd vz :: aI cI zs 28 gs :: aI cI zg 200 u_19.1 :: aI cI zi 100 u_19.2.1 :: aI cI zw 100 u_19.2.2.1 :: aI cI zo 10000 u_19.2.2.2.1 :: aI cI ze 100 u_24.1 :: aZ cZ zd 100 u_24.2 :: X) H := pm_P hP 8 [0, 1, 2, 3, 4, 5, 6, 7] rfl
    have hD : va_D A (oX9 mo zs zv (nI hn) zl zk zt vl 0 zg zi zw (nI (nS S)) zo ze u_19.2.2.2.2.1 u_19.2.2.2.2.2.1 u_19.2.2.2.2.2.2.1 u_19.2.2.2.2.2.2.2.1 (bI u_19.2.2.2.2.2.2.2.2) vp va vb vd vq zd vz :: aI cI zs 28 gs :: aI cI zg 200 u_19.1 :: aI cI zi 100 u_19.2.1 :: aI cI zw 100 u_19.2.2.1 :: aI cI zo 10000 u_19.2.2.2.1 :: aI cI ze 100 u_24.1 :: aZ cZ zd 100 u_24.2 :: X) := pm_D hD 8 [0, 1, 2, 3, 4, 5, 6, 7] rfl rfl rfl
    exact W.iret (v := (onlyS S xk)) hx hb hr (fun t9 ht9 hW9 => ⟨⟨(onlyS S xk), (0, (nI (nS S)), u_19.1, u_19.2.1, u_19.2.2.1, u_19.2.2.2.1, u_24.1, u_24.2, u_19.2.2.2.2.1, u_19.2.2.2.2.2.1, u_19.2.2.2.2.2.2.1, u_19.2.2.2.2.2.2.2.1, u_19.2.2.2.2.2.2.2.2), rfl, Or.inr ⟨Int32.not_lt.mpr c_2, rfl, rfl⟩, by rw [ht9]; exact hP, hD⟩, hS.F ht9⟩) hS.2.2 dX9_onlyRunning_27
  · refine lv_iconst (v := 1) hx hb dX9_onlyRunning_5 (by decide) ?_
    refine lv_goto (tgt := 10) hx hb dX9_onlyRunning_6 (by decide) ?_
    refine cV_i CF hK hN hA hS (cut_of 8 [0, 1, 2, 3, 4, 5, 6, 7] hP hD rfl rfl rfl) (n_holds l D cI cZ cW cJ A (aI cI zs 28 gs :: aI cI zg 200 gg :: aI cI zi 100 gi :: aI cI zw 100 gw :: aI cI zo 10000 go :: aI cI ze 100 ge :: aZ cZ zd 100 gd :: X) mo zs zv zl zk zt zg zi zw zo ze zd (nI hn) vl vh vg vc vr vt vo vp va vb vd vq vm vz 1) (cwV 1 hts gX9_onlyRunning_X9_holds rfl rfl rfl (by decide +kernel) ⟨Nat.le_of_ble_eq_true rfl, Nat.le_of_ble_eq_true rfl⟩) (As := [.int 1]) (rest := []) (ci := 9) (q0 := 0) rfl rfl rfl hl.1 rfl (Nat.le_of_ble_eq_true rfl) dX9_onlyRunning_10 ⟨Nat.le_of_ble_eq_true rfl, Nat.le_of_ble_eq_true rfl⟩ (fun r_10 _ H locs hq hP hD hS => ?_)
    have hq : r_10 = bI (decide ((1 : Int32) = 0)) := hq
    subst hq
    have hP : va_P D vwCl (oX9 mo zs zv (nI hn) zl zk zt vl 1 zg zi zw vg zo ze vc vr vt vo (bI vm) vp va vb vd vq zd vz :: aI cI zs 28 gs :: aI cI zg 200 gg :: aI cI zi 100 gi :: aI cI zw 100 gw :: aI cI zo 10000 go :: aI cI ze 100 ge :: aZ cZ zd 100 gd :: X) H := pm_P hP 8 [0, 1, 2, 3, 4, 5, 6, 7] rfl
    have hD : va_D A (oX9 mo zs zv (nI hn) zl zk zt vl 1 zg zi zw vg zo ze vc vr vt vo (bI vm) vp va vb vd vq zd vz :: aI cI zs 28 gs :: aI cI zg 200 gg :: aI cI zi 100 gi :: aI cI zw 100 gw :: aI cI zo 10000 go :: aI cI ze 100 ge :: aZ cZ zd 100 gd :: X) := pm_D hD 8 [0, 1, 2, 3, 4, 5, 6, 7] rfl rfl rfl
    refine top_i (y := 0) (by decide) ?_
    have c_13 : (0 : Int32) = 0 := by decide
    refine lv_if_ne (tgt := 18) hx hb dX9_onlyRunning_13 (by decide) (fun q => absurd c_13 q) (fun _ => ?_)
    refine lv_iconst (v := 0) hx hb dX9_onlyRunning_16 (by decide) ?_
    exact W.iret (v := 0) hx hb hr (fun t9 ht9 hW9 => ⟨⟨0, (1, vg, gg, gi, gw, go, ge, gd, vc, vr, vt, vo, vm), rfl, Or.inl ⟨Int32.not_le.mp c_2, rfl⟩, by rw [ht9]; exact hP, hD⟩, hS.F ht9⟩) hS.2.2 dX9_onlyRunning_17
set_option maxHeartbeats 4000000 in
set_option maxRecDepth 100000 in
theorem n_reachShare (l : Launch) (D : va_G) (cI cZ cW cJ : ClassId) (A : Nat → Prop) (X : va_W) (mo zs zv zl zk zt zg zi zw zo ze zd : Nat) (vl vh vg vc vr vt vo vp va vb vd vq : Int32) (vm : Bool) (vz : Int64) (hn : Nat) (gs gg gi gw go ge gd : Nat → Int32) (S : KS) (hS0 : AbsM S gs) (hWf : Wf S) : Met l yX9_reachShare wsX9_reachShare ({ frames := 7, cells := 0, slots := 0, locals := 163 }) (va_Pc [.ref mo] (wd D (tyL cI cZ cW cJ) A (oX9 mo zs zv (nI hn) zl zk zt vl vh zg zi zw vg zo ze vc vr vt vo (bI vm) vp va vb vd vq zd vz :: aI cI zs 28 gs :: aI cI zg 200 gg :: aI cI zi 100 gi :: aI cI zw 100 gw :: aI cI zo 10000 go :: aI cI ze 100 ge :: aZ cZ zd 100 gd :: X))) (va_Qd (fun (r : UInt64) (u : Int32 × Int32 × (Nat → Int32) × (Nat → Int32) × (Nat → Int32) × (Nat → Int32) × (Nat → Int32) × (Nat → Int32) × Int32 × Int32 × Int32 × Int32 × Bool) => r = shareS S) (fun (u : Int32 × Int32 × (Nat → Int32) × (Nat → Int32) × (Nat → Int32) × (Nat → Int32) × (Nat → Int32) × (Nat → Int32) × Int32 × Int32 × Int32 × Int32 × Bool) t => wq D A (oX9 mo zs zv (nI hn) zl zk zt vl u.1 zg zi zw u.2.1 zo ze u.2.2.2.2.2.2.2.2.1 u.2.2.2.2.2.2.2.2.2.1 u.2.2.2.2.2.2.2.2.2.2.1 u.2.2.2.2.2.2.2.2.2.2.2.1 (bI u.2.2.2.2.2.2.2.2.2.2.2.2) vp va vb vd vq zd vz :: aI cI zs 28 gs :: aI cI zg 200 u.2.2.1 :: aI cI zi 100 u.2.2.2.1 :: aI cI zw 100 u.2.2.2.2.1 :: aI cI zo 10000 u.2.2.2.2.2.1 :: aI cI ze 100 u.2.2.2.2.2.2.1 :: aZ cZ zd 100 u.2.2.2.2.2.2.2.1 :: X) t) A) 0 0 A := by
  refine Met.ofW (cc := cX9_reachShare) (maxL := 1) (ret := (some .double)) (by decide) rfl ?_
  intro p e s m args below meth c s₁ B hml hv
  obtain ⟨rfl, hsz9, hP, hK, hD, hN⟩ := hv
  have hx := B.exec
  have hb := B.bytes
  have hr := B.returns
  have hts := atoms_spec (ws := wsX9_reachShare) B.pre
  have hown : s.vm.findClass RX9 = some m.cls := findClass_of_methodNamed B.named
  have hlocks := B.notSynchronized
  have CF : CallFix p m c cX9_reachShare 1 s _ wsX9_reachShare RX9 := ⟨hx, hb, hml, hown, hts⟩
  have hA : ∀ q : Nat, s.heap.size ≤ q → A q := hsz9
  have hS : va_S A s.heap s.heap [] := va_S.rf
  have hiX9 : ∀ w ∈ u_ws RX9 TX9 26, w ∈ wsX9_reachShare := fun _ h => List.mem_cons_of_mem _ (List.mem_append_right _ (h))
  have hl := lv_entry ([.ref mo]) (n := 1) (Nat.le_of_ble_eq_true rfl)
  rw [lg_entry_eq]
  generalize (lg_sl ([.ref mo]) ++ List.replicate (1 - (lg_sl ([.ref mo])).length) Slot.unset).toArray = ls at hl ⊢
  have hl : lv_has ls 1 [(0, .ref mo)] := hl
  show W p l e ({ frames := 7, cells := 0, slots := 0, locals := 163 } : Room) s m (([.ref mo] : List Value).toArray) below meth c s.heap [] 0 0 (MQ below (va_Qd (fun (r : UInt64) (u : Int32 × Int32 × (Nat → Int32) × (Nat → Int32) × (Nat → Int32) × (Nat → Int32) × (Nat → Int32) × (Nat → Int32) × Int32 × Int32 × Int32 × Int32 × Bool) => r = shareS S) (fun (u : Int32 × Int32 × (Nat → Int32) × (Nat → Int32) × (Nat → Int32) × (Nat → Int32) × (Nat → Int32) × (Nat → Int32) × Int32 × Int32 × Int32 × Int32 × Bool) t => wq D A (oX9 mo zs zv (nI hn) zl zk zt vl u.1 zg zi zw u.2.1 zo ze u.2.2.2.2.2.2.2.2.1 u.2.2.2.2.2.2.2.2.2.1 u.2.2.2.2.2.2.2.2.2.2.1 u.2.2.2.2.2.2.2.2.2.2.2.1 (bI u.2.2.2.2.2.2.2.2.2.2.2.2) vp va vb vd vq zd vz :: aI cI zs 28 gs :: aI cI zg 200 u.2.2.1 :: aI cI zi 100 u.2.2.2.1 :: aI cI zw 100 u.2.2.2.2.1 :: aI cI zo 10000 u.2.2.2.2.2.1 :: aI cI ze 100 u.2.2.2.2.2.2.1 :: aZ cZ zd 100 u.2.2.2.2.2.2.2.1 :: X) t) A) (([.ref mo] : List Value).toArray) s 0 0 A) (F0 m 0 ls [])
  refine lv_aload_n hx hb dX9_reachShare_0 rfl (lv_at hl 0 rfl) ?_
  refine lv_iconst (v := 0) hx hb dX9_reachShare_1 (by decide) ?_
  refine va_put (D := D) (ci := 9) (v := .int 0) (ty := .int) (C := RX9) (T := TX9) (N := 26) hx hb hts hiX9 tyX9 tyX9_ok nmX9 hown hK hP hD hS 0 rfl rfl 7 (by decide) (hts (.fieldLink RX9 44 "LedgeLeapsModel" "thrown" "I") (List.mem_of_getElem? (i := 1) rfl)) (fun _ h9 => h9) rfl (by decide +kernel) rfl rfl (Nat.le_of_ble_eq_true rfl) dX9_reachShare_2 (fun H locs hP hD hS => ?_)
  have hP : va_P D vwCl (oX9 mo zs zv (nI hn) zl zk zt vl 0 zg zi zw vg zo ze vc vr vt vo (bI vm) vp va vb vd vq zd vz :: aI cI zs 28 gs :: aI cI zg 200 gg :: aI cI zi 100 gi :: aI cI zw 100 gw :: aI cI zo 10000 go :: aI cI ze 100 ge :: aZ cZ zd 100 gd :: X) H := hP
  have hD : va_D A (oX9 mo zs zv (nI hn) zl zk zt vl 0 zg zi zw vg zo ze vc vr vt vo (bI vm) vp va vb vd vq zd vz :: aI cI zs 28 gs :: aI cI zg 200 gg :: aI cI zi 100 gi :: aI cI zw 100 gw :: aI cI zo 10000 go :: aI cI ze 100 ge :: aZ cZ zd 100 gd :: X) := hD
  refine lv_aload_n hx hb dX9_reachShare_5 rfl (lv_at hl 0 rfl) ?_
  refine cV_v CF hK hN hA hS (cut_of 8 [0, 1, 2, 3, 4, 5, 6, 7] hP hD rfl rfl rfl) (n_findReaches l D cI cZ cW cJ A (aI cI ze 100 ge :: aZ cZ zd 100 gd :: X) mo zs zv zl zk zt zg zi zw zo ze zd (nI hn) vl 0 vg vc vr vt vo vp va vb vd vq vm vz gs gg gi gw go S hS0 hWf) (cwV 0 hts gX9_reachShare_X9_findReaches rfl rfl rfl (by decide +kernel) ⟨Nat.le_of_ble_eq_true rfl, Nat.le_of_ble_eq_true rfl⟩) (As := []) (rest := []) (ci := 9) (q0 := 0) rfl rfl rfl hl.1 rfl (Nat.le_of_ble_eq_true rfl) dX9_reachShare_6 ⟨Nat.le_of_ble_eq_true rfl, Nat.le_of_ble_eq_true rfl⟩ (fun u_6 H locs hq hP hD hS => ?_)
  have hq_6 : MapM S u_6.1 u_6.2.1 u_6.2.2.1 ∧ RchM S u_6.2.2.2.1 := hq
  have hP : va_P D vwCl (oX9 mo zs zv (nI hn) zl zk zt vl 0 zg zi zw (nI (nS S)) zo ze u_6.2.2.2.2.1 u_6.2.2.2.2.2.1 u_6.2.2.2.2.2.2.1 u_6.2.2.2.2.2.2.2.1 (bI u_6.2.2.2.2.2.2.2.2) vp va vb vd vq zd vz :: aI cI zs 28 gs :: aI cI zg 200 u_6.1 :: aI cI zi 100 u_6.2.1 :: aI cI zw 100 u_6.2.2.1 :: aI cI zo 10000 u_6.2.2.2.1 :: aI cI ze 100 ge :: aZ cZ zd 100 gd :: X) H := pm_P hP 8 [0, 1, 2, 3, 4, 5, 6, 7] rfl
  have hD : va_D A (oX9 mo zs zv (nI hn) zl zk zt vl 0 zg zi zw (nI (nS S)) zo ze u_6.2.2.2.2.1 u_6.2.2.2.2.2.1 u_6.2.2.2.2.2.2.1 u_6.2.2.2.2.2.2.2.1 (bI u_6.2.2.2.2.2.2.2.2) vp va vb vd vq zd vz :: aI cI zs 28 gs :: aI cI zg 200 u_6.1 :: aI cI zi 100 u_6.2.1 :: aI cI zw 100 u_6.2.2.1 :: aI cI zo 10000 u_6.2.2.2.1 :: aI cI ze 100 ge :: aZ cZ zd 100 gd :: X) := pm_D hD 8 [0, 1, 2, 3, 4, 5, 6, 7] rfl rfl rfl
  have hM : MapM S u_6.1 u_6.2.1 u_6.2.2.1 := hq_6.1
  have hR : RchM S u_6.2.2.2.1 := hq_6.2
  refine lv_aload_n hx hb dX9_reachShare_9 rfl (lv_at hl 0 rfl) ?_
  refine cV_d CF hK hN hA hS (cut_of 8 [0, 1, 2, 3, 4, 5, 6, 7] hP hD rfl rfl rfl) (n_shareTold l D cI cZ cW cJ A (aZ cZ zd 100 gd :: X) mo zs zv zl zk zt zg zi zw zo ze zd (nI hn) vl 0 u_6.2.2.2.2.1 u_6.2.2.2.2.2.1 u_6.2.2.2.2.2.2.1 u_6.2.2.2.2.2.2.2.1 vp va vb vd vq u_6.2.2.2.2.2.2.2.2 vz gs u_6.1 u_6.2.1 u_6.2.2.1 u_6.2.2.2.1 ge S hS0 hWf hM hR) (cwV 0 hts gX9_reachShare_X9_shareTold rfl rfl rfl (by decide +kernel) ⟨Nat.le_of_ble_eq_true rfl, Nat.le_of_ble_eq_true rfl⟩) (As := []) (rest := []) (ci := 9) (q0 := 0) rfl rfl rfl hl.1 rfl (Nat.le_of_ble_eq_true rfl) dX9_reachShare_10 ⟨Nat.le_of_ble_eq_true rfl, Nat.le_of_ble_eq_true rfl⟩ (fun r_10 u_10 H locs hq hP hD hS => ?_)
  have hq_10 : r_10 = shareS S ∧ True := hq
  have hr_10 : r_10 = shareS S := hq_10.1
  subst hr_10
  have hP : va_P D vwCl (oX9 mo zs zv (nI hn) zl zk zt vl 0 zg zi zw (nI (nS S)) zo ze u_6.2.2.2.2.1 u_6.2.2.2.2.2.1 u_6.2.2.2.2.2.2.1 u_6.2.2.2.2.2.2.2.1 (bI u_6.2.2.2.2.2.2.2.2) vp va vb vd vq zd vz :: aI cI zs 28 gs :: aI cI zg 200 u_6.1 :: aI cI zi 100 u_6.2.1 :: aI cI zw 100 u_6.2.2.1 :: aI cI zo 10000 u_6.2.2.2.1 :: aI cI ze 100 u_10 :: aZ cZ zd 100 gd :: X) H := pm_P hP 8 [0, 1, 2, 3, 4, 5, 6, 7] rfl
  have hD : va_D A (oX9 mo zs zv (nI hn) zl zk zt vl 0 zg zi zw (nI (nS S)) zo ze u_6.2.2.2.2.1 u_6.2.2.2.2.2.1 u_6.2.2.2.2.2.2.1 u_6.2.2.2.2.2.2.2.1 (bI u_6.2.2.2.2.2.2.2.2) vp va vb vd vq zd vz :: aI cI zs 28 gs :: aI cI zg 200 u_6.1 :: aI cI zi 100 u_6.2.1 :: aI cI zw 100 u_6.2.2.1 :: aI cI zo 10000 u_6.2.2.2.1 :: aI cI ze 100 u_10 :: aZ cZ zd 100 gd :: X) := pm_D hD 8 [0, 1, 2, 3, 4, 5, 6, 7] rfl rfl rfl
  exact W.dret (v := (shareS S)) hx hb hr (fun t9 ht9 hW9 => ⟨⟨(shareS S), (0, (nI (nS S)), u_6.1, u_6.2.1, u_6.2.2.1, u_6.2.2.2.1, u_10, gd, u_6.2.2.2.2.1, u_6.2.2.2.2.2.1, u_6.2.2.2.2.2.2.1, u_6.2.2.2.2.2.2.2.1, u_6.2.2.2.2.2.2.2.2), rfl, rfl, by rw [ht9]; exact hP, hD⟩, hS.F ht9⟩) hS.2.2 dX9_reachShare_13
