set_option maxHeartbeats 4000000 in
set_option maxRecDepth 100000 in
theorem n_findReaches (l : Launch) (D : va_G) (cI cZ cW cJ : ClassId) (A : Nat → Prop) (X : va_W) (mo zs zv zl zk zt zg zi zw zo ze zd : Nat) (vn vl vh vg vc vr vt vo vp va vb vd vq : Int32) (vm : Bool) (vz : Int64) (gs gg gi gw go : Nat → Int32) (S : KS) (hS0 : AbsM S gs) (hWf : Wf S) : Met l yX9_findReaches wsX9_findReaches ({ frames := 6, cells := 0, slots := 0, locals := 140 }) (va_Pc [.ref mo] (wd D (tyL cI cZ cW cJ) A (oX9 mo zs zv vn zl zk zt vl vh zg zi zw vg zo ze vc vr vt vo (bI vm) vp va vb vd vq zd vz :: aI cI zs 28 gs :: aI cI zg 200 gg :: aI cI zi 100 gi :: aI cI zw 100 gw :: aI cI zo 10000 go :: X))) (va_Qv (fun (u : (Nat → Int32) × (Nat → Int32) × (Nat → Int32) × (Nat → Int32) × Int32 × Int32 × Int32 × Int32 × Bool) => MapM S u.1 u.2.1 u.2.2.1 ∧ RchM S u.2.2.2.1) (fun (u : (Nat → Int32) × (Nat → Int32) × (Nat → Int32) × (Nat → Int32) × Int32 × Int32 × Int32 × Int32 × Bool) t => wq D A (oX9 mo zs zv vn zl zk zt vl vh zg zi zw (nI (nS S)) zo ze u.2.2.2.2.1 u.2.2.2.2.2.1 u.2.2.2.2.2.2.1 u.2.2.2.2.2.2.2.1 (bI u.2.2.2.2.2.2.2.2) vp va vb vd vq zd vz :: aI cI zs 28 gs :: aI cI zg 200 u.1 :: aI cI zi 100 u.2.1 :: aI cI zw 100 u.2.2.1 :: aI cI zo 10000 u.2.2.2.1 :: X) t) A) 0 0 A := by
  refine Met.ofW (cc := cX9_findReaches) (maxL := 4) (ret := none) (by decide) rfl ?_
  intro p e s m args below meth c s₁ B hml hv
  obtain ⟨rfl, hsz9, hP, hK, hD, hN⟩ := hv
  have hx := B.exec
  have hb := B.bytes
  have hr := B.returns
  have hts := atoms_spec (ws := wsX9_findReaches) B.pre
  have hown : s.vm.findClass RX9 = some m.cls := findClass_of_methodNamed B.named
  have hlocks := B.notSynchronized
  have CF : CallFix p m c cX9_findReaches 4 s _ wsX9_findReaches RX9 := ⟨hx, hb, hml, hown, hts⟩
  have hA : ∀ q : Nat, s.heap.size ≤ q → A q := hsz9
  have hS : va_S A s.heap s.heap [] := va_S.rf
  have hiX9 : ∀ w ∈ u_ws RX9 TX9 26, w ∈ wsX9_findReaches := fun _ h => List.mem_cons_of_mem _ (List.mem_append_right _ (h))
  have hl := lv_entry ([.ref mo]) (n := 4) (Nat.le_of_ble_eq_true rfl)
  rw [lg_entry_eq]
  generalize (lg_sl ([.ref mo]) ++ List.replicate (4 - (lg_sl ([.ref mo])).length) Slot.unset).toArray = ls at hl ⊢
  have hl : lv_has ls 4 [(0, .ref mo)] := hl
  show W p l e ({ frames := 6, cells := 0, slots := 0, locals := 140 } : Room) s m (([.ref mo] : List Value).toArray) below meth c s.heap [] 0 0 (MQ below (va_Qv (fun (u : (Nat → Int32) × (Nat → Int32) × (Nat → Int32) × (Nat → Int32) × Int32 × Int32 × Int32 × Int32 × Bool) => MapM S u.1 u.2.1 u.2.2.1 ∧ RchM S u.2.2.2.1) (fun (u : (Nat → Int32) × (Nat → Int32) × (Nat → Int32) × (Nat → Int32) × Int32 × Int32 × Int32 × Int32 × Bool) t => wq D A (oX9 mo zs zv vn zl zk zt vl vh zg zi zw (nI (nS S)) zo ze u.2.2.2.2.1 u.2.2.2.2.2.1 u.2.2.2.2.2.2.1 u.2.2.2.2.2.2.2.1 (bI u.2.2.2.2.2.2.2.2) vp va vb vd vq zd vz :: aI cI zs 28 gs :: aI cI zg 200 u.1 :: aI cI zi 100 u.2.1 :: aI cI zw 100 u.2.2.1 :: aI cI zo 10000 u.2.2.2.1 :: X) t) A) (([.ref mo] : List Value).toArray) s 0 0 A) (F0 m 0 ls [])
  refine lv_aload_n hx hb dX9_findReaches_0 rfl (lv_at hl 0 rfl) ?_
  refine cV_v CF hK hN hA hS (cut_of 6 [0, 1, 2, 3, 4, 5] hP hD rfl rfl rfl) (n_findLedges l D cI cZ cW cJ A (aI cI zo 10000 go :: X) mo zs zv zl zk zt zg zi zw zo ze zd vn vl vh vc vr vt vo vp va vb vd vq vm vz vg gs gg gi gw S hS0) (cwV 0 hts gX9_findReaches_X9_findLedges rfl rfl rfl (by decide +kernel) ⟨Nat.le_of_ble_eq_true rfl, Nat.le_of_ble_eq_true rfl⟩) (As := []) (rest := []) (ci := 9) (q0 := 0) rfl rfl rfl hl.1 rfl (Nat.le_of_ble_eq_true rfl) dX9_findReaches_1 ⟨Nat.le_of_ble_eq_true rfl, Nat.le_of_ble_eq_true rfl⟩ (fun u_1 H locs hq hP hD hS => ?_)
  have hq_1 : MapM S u_1.1 u_1.2.1 u_1.2.2 := hq
  have hP : va_P D vwCl (oX9 mo zs zv vn zl zk zt vl vh zg zi zw (nI (nS S)) zo ze vc vr vt vo (bI vm) vp va vb vd vq zd vz :: aI cI zs 28 gs :: aI cI zg 200 u_1.1 :: aI cI zi 100 u_1.2.1 :: aI cI zw 100 u_1.2.2 :: aI cI zo 10000 go :: X) H := pm_P hP 6 [0, 1, 2, 3, 4, 5] rfl
  have hD : va_D A (oX9 mo zs zv vn zl zk zt vl vh zg zi zw (nI (nS S)) zo ze vc vr vt vo (bI vm) vp va vb vd vq zd vz :: aI cI zs 28 gs :: aI cI zg 200 u_1.1 :: aI cI zi 100 u_1.2.1 :: aI cI zw 100 u_1.2.2 :: aI cI zo 10000 go :: X) := pm_D hD 6 [0, 1, 2, 3, 4, 5] rfl rfl rfl
  have hM : MapM S u_1.1 u_1.2.1 u_1.2.2 := hq_1
  have hn9 : nS S ≤ 100 := nL_le _
  refine lv_iconst (v := 0) hx hb dX9_findReaches_4 (by decide) ?_
  refine lv_istore_n (lv' := [(1, .int 0), (0, .ref mo)]) hx hb dX9_findReaches_5 rfl hl (by decide) rfl (fun ls hl => ?_)
  have loop_6 : ∀ (nfu : Nat) (z : Nat) (hn_6 : nS S * 100 - z < nfu) (hz : z ≤ nS S * 100) (H : Heap) (locs : List Loc) (hP : va_P D vwCl (oX9 mo zs zv vn zl zk zt vl vh zg zi zw (nI (nS S)) zo ze vc vr vt vo (bI vm) vp va vb vd vq zd vz :: aI cI zs 28 gs :: aI cI zg 200 u_1.1 :: aI cI zi 100 u_1.2.1 :: aI cI zw 100 u_1.2.2 :: aI cI zo 10000 (fillX 9 go z) :: X) H) (hD : va_D A (oX9 mo zs zv vn zl zk zt vl vh zg zi zw (nI (nS S)) zo ze vc vr vt vo (bI vm) vp va vb vd vq zd vz :: aI cI zs 28 gs :: aI cI zg 200 u_1.1 :: aI cI zi 100 u_1.2.1 :: aI cI zw 100 u_1.2.2 :: aI cI zo 10000 (fillX 9 go z) :: X)) (hS : va_S A s.heap H locs) (ls : Array Slot) (hl : lv_has ls 4 [(1, .int (nI z)), (0, .ref mo)]), W p l e ({ frames := 6, cells := 0, slots := 0, locals := 140 } : Room) s m (([.ref mo] : List Value).toArray) below meth c H locs 0 0 (MQ below (va_Qv (fun (u : (Nat → Int32) × (Nat → Int32) × (Nat → Int32) × (Nat → Int32) × Int32 × Int32 × Int32 × Int32 × Bool) => MapM S u.1 u.2.1 u.2.2.1 ∧ RchM S u.2.2.2.1) (fun (u : (Nat → Int32) × (Nat → Int32) × (Nat → Int32) × (Nat → Int32) × Int32 × Int32 × Int32 × Int32 × Bool) t => wq D A (oX9 mo zs zv vn zl zk zt vl vh zg zi zw (nI (nS S)) zo ze u.2.2.2.2.1 u.2.2.2.2.2.1 u.2.2.2.2.2.2.1 u.2.2.2.2.2.2.2.1 (bI u.2.2.2.2.2.2.2.2) vp va vb vd vq zd vz :: aI cI zs 28 gs :: aI cI zg 200 u.1 :: aI cI zi 100 u.2.1 :: aI cI zw 100 u.2.2.1 :: aI cI zo 10000 u.2.2.2.1 :: X) t) A) (([.ref mo] : List Value).toArray) s 0 0 A) (F0 m 6 ls []) := by
    intro nfu
    induction nfu with
    | zero => intro z hn_6; exact absurd hn_6 (Nat.not_lt_zero _)
    | succ nfu ih_6 =>
      intro z hn_6 hz H locs hP hD hS ls hl
      refine lv_iload_n hx hb dX9_findReaches_6 rfl (lv_at hl 0 rfl) ?_
      refine lv_aload_n hx hb dX9_findReaches_7 rfl (lv_at hl 1 rfl) ?_
      refine va_get (D := D) (ci := 9) (v := .int (nI (nS S))) (C := RX9) (T := TX9) (N := 26) hx hb hts hiX9 hown hK hP 0 rfl rfl 11 (by decide) (hts (.fieldLink RX9 66 "LedgeLeapsModel" "ledges" "I") (List.mem_of_getElem? (i := 1) rfl)) (fun _ h9 => h9) rfl dX9_findReaches_8 ?_
      refine lv_bipush (v := 100) hx hb dX9_findReaches_11 (by decide) ?_
      refine lv_imul hx hb dX9_findReaches_13 ?_
      refine top_i (y := (nI (nS S * 100))) (pk_mul _ 100) ?_
      refine lv_icmp_ge (tgt := 31) hx hb dX9_findReaches_14 (by decide) (fun c_14 => ?_) (fun c_14 => ?_)
      · obtain rfl : z = nS S * 100 := by have h := le_of_ge (a := nS S * 100) (b := z) (by omega) (by omega) c_14; omega
        refine lv_iconst (v := 0) hx hb dX9_findReaches_31 (by decide) ?_
        refine lv_istore_n (lv' := [(1, .int 0), (0, .ref mo)]) hx hb dX9_findReaches_32 rfl hl (by decide) rfl (fun ls hl => ?_)
        have loop_33 : ∀ (nfu : Nat) (i : Nat) (h9 : Nat → Int32) (x1 x2 x3 x4 : Int32) (b5 : Bool) (hn_33 : 200 - i < nfu) (hi : i ≤ 200) (hI9 : InvN 9 (100 * nS S) h9 (EvA (Bk S.1) S.2.1.1 S.2.1.2.1 S.2.1.2.2 i)) (H : Heap) (locs : List Loc) (hP : va_P D vwCl (oX9 mo zs zv vn zl zk zt vl vh zg zi zw (nI (nS S)) zo ze x1 x2 x3 x4 (bI b5) vp va vb vd vq zd vz :: aI cI zs 28 gs :: aI cI zg 200 u_1.1 :: aI cI zi 100 u_1.2.1 :: aI cI zw 100 u_1.2.2 :: aI cI zo 10000 h9 :: X) H) (hD : va_D A (oX9 mo zs zv vn zl zk zt vl vh zg zi zw (nI (nS S)) zo ze x1 x2 x3 x4 (bI b5) vp va vb vd vq zd vz :: aI cI zs 28 gs :: aI cI zg 200 u_1.1 :: aI cI zi 100 u_1.2.1 :: aI cI zw 100 u_1.2.2 :: aI cI zo 10000 h9 :: X)) (hS : va_S A s.heap H locs) (ls : Array Slot) (hl : lv_has ls 4 [(1, .int (nI i)), (0, .ref mo)]), W p l e ({ frames := 6, cells := 0, slots := 0, locals := 140 } : Room) s m (([.ref mo] : List Value).toArray) below meth c H locs 0 0 (MQ below (va_Qv (fun (u : (Nat → Int32) × (Nat → Int32) × (Nat → Int32) × (Nat → Int32) × Int32 × Int32 × Int32 × Int32 × Bool) => MapM S u.1 u.2.1 u.2.2.1 ∧ RchM S u.2.2.2.1) (fun (u : (Nat → Int32) × (Nat → Int32) × (Nat → Int32) × (Nat → Int32) × Int32 × Int32 × Int32 × Int32 × Bool) t => wq D A (oX9 mo zs zv vn zl zk zt vl vh zg zi zw (nI (nS S)) zo ze u.2.2.2.2.1 u.2.2.2.2.2.1 u.2.2.2.2.2.2.1 u.2.2.2.2.2.2.2.1 (bI u.2.2.2.2.2.2.2.2) vp va vb vd vq zd vz :: aI cI zs 28 gs :: aI cI zg 200 u.1 :: aI cI zi 100 u.2.1 :: aI cI zw 100 u.2.2.1 :: aI cI zo 10000 u.2.2.2.1 :: X) t) A) (([.ref mo] : List Value).toArray) s 0 0 A) (F0 m 33 ls []) := by
          intro nfu
          induction nfu with
          | zero => intro i h9 x1 x2 x3 x4 b5 hn_33; exact absurd hn_33 (Nat.not_lt_zero _)
          | succ nfu ih_33 =>
            intro i h9 x1 x2 x3 x4 b5 hn_33 hi hI9 H locs hP hD hS ls hl
            refine lv_iload_n hx hb dX9_findReaches_33 rfl (lv_at hl 0 rfl) ?_
            refine lv_sipush (v := 200) hx hb dX9_findReaches_34 (by decide) ?_
            refine lv_icmp_ge (tgt := 148) hx hb dX9_findReaches_37 (by decide) (fun c_37 => ?_) (fun c_37 => ?_)
            · have e9 : i = 200 := by have h := le_of_ge (a := 200) (b := i) (by decide) (by omega) c_37; omega
              rw [e9] at hI9
              exact W.vret hx hb hr (fun t9 ht9 hW9 => ⟨⟨(u_1.1, u_1.2.1, u_1.2.2, h9, x1, x2, x3, x4, b5), rfl, ⟨hM, hI9⟩, by rw [ht9]; exact hP, hD⟩, hS.F ht9⟩) hS.2.2 dX9_findReaches_148
            · have hi2 : i < 200 := lt_of_nge (a := 200) (b := i) (by decide) (by omega) c_37
              refine lv_iconst (v := 0) hx hb dX9_findReaches_40 (by decide) ?_
              refine lv_istore_n (lv' := [(2, .int 0), (1, .int (nI i)), (0, .ref mo)]) hx hb dX9_findReaches_41 rfl hl (by decide) rfl (fun ls hl => ?_)
              have loop_42 : ∀ (nfu : Nat) (k : Nat) (h8 : Nat → Int32) (y1 y2 y3 y4 : Int32) (d5 : Bool) (hn_42 : 8 - k < nfu) (hk : k ≤ 8) (hI : InvN 9 (100 * nS S) h8 (fun p u => EvA (Bk S.1) S.2.1.1 S.2.1.2.1 S.2.1.2.2 i p u ∨ EvK (Bk S.1) S.2.1.1 S.2.1.2.1 S.2.1.2.2 i k p u)) (H : Heap) (locs : List Loc) (hP : va_P D vwCl (oX9 mo zs zv vn zl zk zt vl vh zg zi zw (nI (nS S)) zo ze y1 y2 y3 y4 (bI d5) vp va vb vd vq zd vz :: aI cI zs 28 gs :: aI cI zg 200 u_1.1 :: aI cI zi 100 u_1.2.1 :: aI cI zw 100 u_1.2.2 :: aI cI zo 10000 h8 :: X) H) (hD : va_D A (oX9 mo zs zv vn zl zk zt vl vh zg zi zw (nI (nS S)) zo ze y1 y2 y3 y4 (bI d5) vp va vb vd vq zd vz :: aI cI zs 28 gs :: aI cI zg 200 u_1.1 :: aI cI zi 100 u_1.2.1 :: aI cI zw 100 u_1.2.2 :: aI cI zo 10000 h8 :: X)) (hS : va_S A s.heap H locs) (ls : Array Slot) (hl : lv_has ls 4 [(2, .int (nI k)), (1, .int (nI i)), (0, .ref mo)]), W p l e ({ frames := 6, cells := 0, slots := 0, locals := 140 } : Room) s m (([.ref mo] : List Value).toArray) below meth c H locs 0 0 (MQ below (va_Qv (fun (u : (Nat → Int32) × (Nat → Int32) × (Nat → Int32) × (Nat → Int32) × Int32 × Int32 × Int32 × Int32 × Bool) => MapM S u.1 u.2.1 u.2.2.1 ∧ RchM S u.2.2.2.1) (fun (u : (Nat → Int32) × (Nat → Int32) × (Nat → Int32) × (Nat → Int32) × Int32 × Int32 × Int32 × Int32 × Bool) t => wq D A (oX9 mo zs zv vn zl zk zt vl vh zg zi zw (nI (nS S)) zo ze u.2.2.2.2.1 u.2.2.2.2.2.1 u.2.2.2.2.2.2.1 u.2.2.2.2.2.2.2.1 (bI u.2.2.2.2.2.2.2.2) vp va vb vd vq zd vz :: aI cI zs 28 gs :: aI cI zg 200 u.1 :: aI cI zi 100 u.2.1 :: aI cI zw 100 u.2.2.1 :: aI cI zo 10000 u.2.2.2.1 :: X) t) A) (([.ref mo] : List Value).toArray) s 0 0 A) (F0 m 42 ls []) := by
                intro nfu
                induction nfu with
                | zero => intro k h8 y1 y2 y3 y4 d5 hn_42; exact absurd hn_42 (Nat.not_lt_zero _)
                | succ nfu ih_42 =>
                  intro k h8 y1 y2 y3 y4 d5 hn_42 hk hI H locs hP hD hS ls hl
                  refine lv_iload_n hx hb dX9_findReaches_42 rfl (lv_at hl 0 rfl) ?_
                  refine lv_bipush (v := 8) hx hb dX9_findReaches_43 (by decide) ?_
                  refine lv_icmp_ge (tgt := 142) hx hb dX9_findReaches_45 (by decide) (fun c_45 => ?_) (fun c_45 => ?_)
                  · refine lv_iinc (v := (nI (i + 1))) (lv' := [(1, .int (nI (i + 1))), (2, .int (nI k)), (0, .ref mo)]) hx hb dX9_findReaches_142 hl (k := 1) rfl (nI_1 i) (by decide) rfl (fun ls hl => ?_)
                    refine lv_goto (tgt := 33) hx hb dX9_findReaches_145 (by decide) ?_
                    exact ih_33 (i + 1) h8 y1 y2 y3 y4 d5 (by omega) (by omega) (EvK_end hI (Or.inl (le_of_ge (a := 8) (b := k) (by decide) (by omega) c_45))) _ _ (hP) (hD) hS _ (lv_sub hl [0, 2] rfl)
                  · have hk2 : k < 8 := lt_of_nge (a := 8) (b := k) (by decide) (by omega) c_45
                    refine lv_aload_n hx hb dX9_findReaches_48 rfl (lv_at hl 2 rfl) ?_
                    refine va_get (D := D) (ci := 9) (v := .ref zg) (C := RX9) (T := TX9) (N := 26) hx hb hts hiX9 hown hK hP 0 rfl rfl 8 (by decide) (hts (.fieldLink RX9 26 "LedgeLeapsModel" "ledge" "[I") (List.mem_of_getElem? (i := 3) rfl)) (fun _ h9 => h9) rfl dX9_findReaches_49 ?_
                    refine lv_iload_n hx hb dX9_findReaches_52 rfl (lv_at hl 1 rfl) ?_
                    refine va_iald hx hb hK hP 2 0 rfl rfl (vp_ix (e := i) (rfl) (hi2) (by decide)) dX9_findReaches_53 ?_
                    refine top_i (y := (u_1.1 i)) (ld_ix (f := u_1.1) (x := (nI i)) (e := i) (n := 200) (rfl) (hi2) (by decide)) ?_
                    refine lv_iconst (v := (-1)) hx hb dX9_findReaches_54 (by decide) ?_
                    refine lv_icmp_eq (tgt := 142) hx hb dX9_findReaches_55 (by decide) (fun c_55 => ?_) (fun c_55 => ?_)
                    · refine lv_iinc (v := (nI (i + 1))) (lv' := [(1, .int (nI (i + 1))), (2, .int (nI k)), (0, .ref mo)]) hx hb dX9_findReaches_142 hl (k := 1) rfl (nI_1 i) (by decide) rfl (fun ls hl => ?_)
                      refine lv_goto (tgt := 33) hx hb dX9_findReaches_145 (by decide) ?_
                      exact ih_33 (i + 1) h8 y1 y2 y3 y4 d5 (by omega) (by omega) (EvK_end hI (Or.inr ((lgF_m hi2 cnt_200).mp ((hM.1 i hi2).symm.trans c_55)))) _ _ (hP) (hD) hS _ (lv_sub hl [0, 2] rfl)
                    · refine lv_aload_n hx hb dX9_findReaches_58 rfl (lv_at hl 2 rfl) ?_
                      refine lv_iload_n hx hb dX9_findReaches_59 rfl (lv_at hl 1 rfl) ?_
                      refine lv_bipush (v := 20) hx hb dX9_findReaches_60 (by decide) ?_
                      refine lv_irem hx hb dX9_findReaches_62 (by decide) ?_
                      refine top_i (y := (nI (i % 20))) (pk_rem (by omega) (by decide) (by decide)) ?_
                      refine lv_iload_n hx hb dX9_findReaches_63 rfl (lv_at hl 1 rfl) ?_
                      refine lv_bipush (v := 20) hx hb dX9_findReaches_64 (by decide) ?_
                      refine lv_idiv hx hb dX9_findReaches_66 (by decide) ?_
                      refine top_i (y := (nI (i / 20))) (pk_div (by omega) (by decide) (by decide)) ?_
                      refine lv_iconst (v := 2) hx hb dX9_findReaches_67 (by decide) ?_
                      refine lv_iload_n hx hb dX9_findReaches_68 rfl (lv_at hl 0 rfl) ?_
                      refine lv_iconst (v := 2) hx hb dX9_findReaches_69 (by decide) ?_
                      refine lv_irem hx hb dX9_findReaches_70 (by decide) ?_
                      refine top_i (y := (nI (k % 2))) (pk_rem (by omega) (by decide) (by decide)) ?_
                      refine lv_imul hx hb dX9_findReaches_71 ?_
                      refine lv_iconst (v := 1) hx hb dX9_findReaches_72 (by decide) ?_
                      refine lv_isub hx hb dX9_findReaches_73 ?_
                      refine top_i (y := (dkI k)) (dk_eq k) ?_
                      refine lv_iload_n hx hb dX9_findReaches_74 rfl (lv_at hl 0 rfl) ?_
                      refine lv_iconst (v := 2) hx hb dX9_findReaches_75 (by decide) ?_
                      refine lv_idiv hx hb dX9_findReaches_76 (by decide) ?_
                      refine top_i (y := (nI (k / 2))) (pk_div (by omega) (by decide) (by decide)) ?_
                      refine cV_i CF hK hN hA hS (cut_of 6 [0, 1, 2, 3, 4, 5] hP hD rfl rfl rfl) (n_tries l D cI cZ cW cJ A (aI cI zg 200 u_1.1 :: aI cI zi 100 u_1.2.1 :: aI cI zw 100 u_1.2.2 :: aI cI zo 10000 h8 :: X) mo zs zv zl zk zt zg zi zw zo ze zd vn vl vh (nI (nS S)) y1 y2 y3 y4 vp va vb vd vq d5 vz gs S (i % 20) (i / 20) (k / 2) (dkI k) hS0 hWf (by omega) (by omega) (by omega)) (cwV 4 hts gX9_findReaches_X9_tries rfl rfl rfl (by decide +kernel) ⟨Nat.le_of_ble_eq_true rfl, Nat.le_of_ble_eq_true rfl⟩) (As := [.int (nI (i % 20)), .int (nI (i / 20)), .int (dkI k), .int (nI (k / 2))]) (rest := []) (ci := 9) (q0 := 0) rfl rfl rfl hl.1 rfl (Nat.le_of_ble_eq_true rfl) dX9_findReaches_77 ⟨Nat.le_of_ble_eq_true rfl, Nat.le_of_ble_eq_true rfl⟩ (fun r_77 u_77 H locs hq hP hD hS => ?_)
                      have hq_77 : r_77 = bI (!decide (grB (Bk S.1) (nI (i % 20)) (nI (i / 20)) (dkI k) < nI (k / 2))) ∧ (¬ grB (Bk S.1) (nI (i % 20)) (nI (i / 20)) (dkI k) < nI (k / 2) → u_77.1 = (flyR (Bk S.1) S.2.1.1 S.2.1.2.1 S.2.1.2.2 (dkI k) (i % 20) (i / 20) (k / 2)).1 ∧ u_77.2.1 = (flyR (Bk S.1) S.2.1.1 S.2.1.2.1 S.2.1.2.2 (dkI k) (i % 20) (i / 20) (k / 2)).2.1 ∧ u_77.2.2.1 = (flyR (Bk S.1) S.2.1.1 S.2.1.2.1 S.2.1.2.2 (dkI k) (i % 20) (i / 20) (k / 2)).2.2.1 ∧ u_77.2.2.2.1 = (flyR (Bk S.1) S.2.1.1 S.2.1.2.1 S.2.1.2.2 (dkI k) (i % 20) (i / 20) (k / 2)).2.2.2.1 ∧ u_77.2.2.2.2 = (flyR (Bk S.1) S.2.1.1 S.2.1.2.1 S.2.1.2.2 (dkI k) (i % 20) (i / 20) (k / 2)).2.2.2.2.1) := hq
                      have hr_77 : r_77 = bI (!decide (grB (Bk S.1) (nI (i % 20)) (nI (i / 20)) (dkI k) < nI (k / 2))) := hq_77.1
                      subst hr_77
                      have hP : va_P D vwCl (oX9 mo zs zv vn zl zk zt vl vh zg zi zw (nI (nS S)) zo ze u_77.1 u_77.2.1 u_77.2.2.1 u_77.2.2.2.1 (bI u_77.2.2.2.2) vp va vb vd vq zd vz :: aI cI zs 28 gs :: aI cI zg 200 u_1.1 :: aI cI zi 100 u_1.2.1 :: aI cI zw 100 u_1.2.2 :: aI cI zo 10000 h8 :: X) H := pm_P hP 6 [0, 1, 2, 3, 4, 5] rfl
                      have hD : va_D A (oX9 mo zs zv vn zl zk zt vl vh zg zi zw (nI (nS S)) zo ze u_77.1 u_77.2.1 u_77.2.2.1 u_77.2.2.2.1 (bI u_77.2.2.2.2) vp va vb vd vq zd vz :: aI cI zs 28 gs :: aI cI zg 200 u_1.1 :: aI cI zi 100 u_1.2.1 :: aI cI zw 100 u_1.2.2 :: aI cI zo 10000 h8 :: X) := pm_D hD 6 [0, 1, 2, 3, 4, 5] rfl rfl rfl
                      refine lv_if_eq (tgt := 136) hx hb dX9_findReaches_80 (by decide) (fun c_80 => ?_) (fun c_80 => ?_)
                      · refine lv_iinc (v := (nI (k + 1))) (lv' := [(2, .int (nI (k + 1))), (1, .int (nI i)), (0, .ref mo)]) hx hb dX9_findReaches_136 hl (k := 0) rfl (nI_1 k) (by decide) rfl (fun ls hl => ?_)
                        refine lv_goto (tgt := 42) hx hb dX9_findReaches_139 (by decide) ?_
                        exact ih_42 (k + 1) h8 u_77.1 u_77.2.1 u_77.2.2.1 u_77.2.2.2.1 u_77.2.2.2.2 (by omega) (by omega) (EvK_skip hI (Ev_gr (of_decide_eq_true (by have q := bf_c c_80; revert q; cases decide (grB (Bk S.1) (nI (i % 20)) (nI (i / 20)) (dkI k) < nI (k / 2)) <;> simp)))) _ _ (hP) (hD) hS _ (lv_sub hl [0, 1, 2] rfl)
                      · have hng : ¬ grB (Bk S.1) (nI (i % 20)) (nI (i / 20)) (dkI k) < nI (k / 2) := by have q := bt_c c_80; intro z; rw [decide_eq_true z] at q; cases q
                        have hSi : SB (Bk S.1) i = true := (gr_le (by omega) (Int32.not_lt.mp hng)).1
                        obtain ⟨f1, f2, -⟩ := hq_77.2 hng
                        obtain ⟨j, hj, hSj, e1, e2⟩ := flyR_land (Bk_OutB S.1) (d := dkI k) hWf.1 hi2 hSi (k / 2)
                        have hEv := Ev_one hi2 (Int32.not_lt.mp hng) (by omega) hj hSj e1 e2
                        have g1 : u_77.1 = nI (j % 20) := f1.trans e1
                        have g2 : u_77.2.1 = nI (j / 20) := f2.trans e2
                        rw [g1, g2] at hP hD
                        have hl1 : lgN (SB (Bk S.1)) i < nS S ∧ lgN (SB (Bk S.1)) i < 100 := lgN_lt hi2 hSi
                        have hl2 : lgN (SB (Bk S.1)) j < nS S ∧ lgN (SB (Bk S.1)) j < 100 := lgN_lt hj hSj
                        have hP : va_P D vwCl (oX9 mo zs zv vn zl zk zt vl vh zg zi zw (nI (nS S)) zo ze (nI (j % 20)) (nI (j / 20)) u_77.2.2.1 u_77.2.2.2.1 (bI u_77.2.2.2.2) vp va vb vd vq zd vz :: aI cI zs 28 gs :: aI cI zg 200 u_1.1 :: aI cI zi 100 u_1.2.1 :: aI cI zw 100 u_1.2.2 :: aI cI zo 10000 h8 :: X) H := hP
                        have hD : va_D A (oX9 mo zs zv vn zl zk zt vl vh zg zi zw (nI (nS S)) zo ze (nI (j % 20)) (nI (j / 20)) u_77.2.2.1 u_77.2.2.2.1 (bI u_77.2.2.2.2) vp va vb vd vq zd vz :: aI cI zs 28 gs :: aI cI zg 200 u_1.1 :: aI cI zi 100 u_1.2.1 :: aI cI zw 100 u_1.2.2 :: aI cI zo 10000 h8 :: X) := hD
                        refine lv_bipush (v := 100) hx hb dX9_findReaches_83 (by decide) ?_
                        refine lv_aload_n hx hb dX9_findReaches_85 rfl (lv_at hl 2 rfl) ?_
                        refine va_get (D := D) (ci := 9) (v := .ref zg) (C := RX9) (T := TX9) (N := 26) hx hb hts hiX9 hown hK hP 0 rfl rfl 8 (by decide) (hts (.fieldLink RX9 26 "LedgeLeapsModel" "ledge" "[I") (List.mem_of_getElem? (i := 3) rfl)) (fun _ h9 => h9) rfl dX9_findReaches_86 ?_
                        refine lv_iload_n hx hb dX9_findReaches_89 rfl (lv_at hl 1 rfl) ?_
                        refine va_iald hx hb hK hP 2 0 rfl rfl (vp_ix (e := i) (rfl) (hi2) (by decide)) dX9_findReaches_90 ?_
                        refine top_i (y := (u_1.1 i)) (ld_ix (f := u_1.1) (x := (nI i)) (e := i) (n := 200) (rfl) (hi2) (by decide)) ?_
                        refine top_i (y := (nI (lgN (SB (Bk S.1)) i))) ((hM.1 i hi2).trans (lgF_S hSi)) ?_
                        refine lv_imul hx hb dX9_findReaches_91 ?_
                        refine top_i (y := (nI (100 * lgN (SB (Bk S.1)) i))) (pk_mul 100 _) ?_
                        refine lv_aload_n hx hb dX9_findReaches_92 rfl (lv_at hl 2 rfl) ?_
                        refine lv_aload_n hx hb dX9_findReaches_93 rfl (lv_at hl 2 rfl) ?_
                        refine va_get (D := D) (ci := 9) (v := .int (nI (j % 20))) (C := RX9) (T := TX9) (N := 26) hx hb hts hiX9 hown hK hP 0 rfl rfl 14 (by decide) (hts (.fieldLink RX9 76 "LedgeLeapsModel" "column" "I") (List.mem_of_getElem? (i := 4) rfl)) (fun _ h9 => h9) rfl dX9_findReaches_94 ?_
                        refine lv_aload_n hx hb dX9_findReaches_97 rfl (lv_at hl 2 rfl) ?_
                        refine va_get (D := D) (ci := 9) (v := .int (nI (j / 20))) (C := RX9) (T := TX9) (N := 26) hx hb hts hiX9 hown hK hP 0 rfl rfl 15 (by decide) (hts (.fieldLink RX9 79 "LedgeLeapsModel" "row" "I") (List.mem_of_getElem? (i := 5) rfl)) (fun _ h9 => h9) rfl dX9_findReaches_98 ?_
                        refine cV_i CF hK hN hA hS (cut_of 6 [0, 2, 1, 3, 4, 5] hP hD rfl rfl rfl) (n_ledgeAt l D cI cZ cW cJ A (aI cI zs 28 gs :: aI cI zi 100 u_1.2.1 :: aI cI zw 100 u_1.2.2 :: aI cI zo 10000 h8 :: X) mo zs zv zl zk zt zg zi zw zo ze zd vn vl vh (nI (nS S)) (nI (j % 20)) (nI (j / 20)) u_77.2.2.1 u_77.2.2.2.1 vp va vb vd vq u_77.2.2.2.2 vz u_1.1 (j % 20) (j / 20) (by omega) (by omega)) (cwV 2 hts gX9_findReaches_X9_ledgeAt rfl rfl rfl (by decide +kernel) ⟨Nat.le_of_ble_eq_true rfl, Nat.le_of_ble_eq_true rfl⟩) (As := [.int (nI (j % 20)), .int (nI (j / 20))]) (rest := [.int (nI (100 * lgN (SB (Bk S.1)) i))]) (ci := 9) (q0 := 0) rfl rfl rfl hl.1 rfl (Nat.le_of_ble_eq_true rfl) dX9_findReaches_101 ⟨Nat.le_of_ble_eq_true rfl, Nat.le_of_ble_eq_true rfl⟩ (fun r_101 _ H locs hq hP hD hS => ?_)
                        have hq : r_101 = u_1.1 (20 * (j / 20) + (j % 20)) := hq
                        subst hq
                        have hP : va_P D vwCl (oX9 mo zs zv vn zl zk zt vl vh zg zi zw (nI (nS S)) zo ze (nI (j % 20)) (nI (j / 20)) u_77.2.2.1 u_77.2.2.2.1 (bI u_77.2.2.2.2) vp va vb vd vq zd vz :: aI cI zs 28 gs :: aI cI zg 200 u_1.1 :: aI cI zi 100 u_1.2.1 :: aI cI zw 100 u_1.2.2 :: aI cI zo 10000 h8 :: X) H := pm_P hP 6 [0, 2, 1, 3, 4, 5] rfl
                        have hD : va_D A (oX9 mo zs zv vn zl zk zt vl vh zg zi zw (nI (nS S)) zo ze (nI (j % 20)) (nI (j / 20)) u_77.2.2.1 u_77.2.2.2.1 (bI u_77.2.2.2.2) vp va vb vd vq zd vz :: aI cI zs 28 gs :: aI cI zg 200 u_1.1 :: aI cI zi 100 u_1.2.1 :: aI cI zw 100 u_1.2.2 :: aI cI zo 10000 h8 :: X) := pm_D hD 6 [0, 2, 1, 3, 4, 5] rfl rfl rfl
                        refine top_i (y := (nI (lgN (SB (Bk S.1)) j))) (by rw [show 20 * (j / 20) + j % 20 = j by omega]; exact (hM.1 j hj).trans (lgF_S hSj)) ?_
                        refine lv_iadd hx hb dX9_findReaches_104 ?_
                        refine top_i (y := (nI (100 * lgN (SB (Bk S.1)) i + lgN (SB (Bk S.1)) j))) (nI_add _ _) ?_
                        refine lv_istore_n (lv' := [(3, .int (nI (100 * lgN (SB (Bk S.1)) i + lgN (SB (Bk S.1)) j))), (2, .int (nI k)), (1, .int (nI i)), (0, .ref mo)]) hx hb dX9_findReaches_105 rfl hl (by decide) rfl (fun ls hl => ?_)
                        refine lv_aload_n hx hb dX9_findReaches_106 rfl (lv_at hl 3 rfl) ?_
                        refine va_get (D := D) (ci := 9) (v := .ref zo) (C := RX9) (T := TX9) (N := 26) hx hb hts hiX9 hown hK hP 0 rfl rfl 12 (by decide) (hts (.fieldLink RX9 35 "LedgeLeapsModel" "slow" "[I") (List.mem_of_getElem? (i := 2) rfl)) (fun _ h9 => h9) rfl dX9_findReaches_107 ?_
                        refine lv_iload_n hx hb dX9_findReaches_110 rfl (lv_at hl 0 rfl) ?_
                        refine lv_iload_n hx hb dX9_findReaches_111 rfl (lv_at hl 1 rfl) ?_
                        refine lv_iconst (v := 2) hx hb dX9_findReaches_112 (by decide) ?_
                        refine lv_idiv hx hb dX9_findReaches_113 (by decide) ?_
                        refine top_i (y := (nI (k / 2))) (pk_div (by omega) (by decide) (by decide)) ?_
                        refine lv_aload_n hx hb dX9_findReaches_114 rfl (lv_at hl 3 rfl) ?_
                        refine va_get (D := D) (ci := 9) (v := .ref zo) (C := RX9) (T := TX9) (N := 26) hx hb hts hiX9 hown hK hP 0 rfl rfl 12 (by decide) (hts (.fieldLink RX9 35 "LedgeLeapsModel" "slow" "[I") (List.mem_of_getElem? (i := 2) rfl)) (fun _ h9 => h9) rfl dX9_findReaches_115 ?_
                        refine lv_iload_n hx hb dX9_findReaches_118 rfl (lv_at hl 0 rfl) ?_
                        refine va_iald hx hb hK hP 5 0 rfl rfl (vp_ix (e := (100 * lgN (SB (Bk S.1)) i + lgN (SB (Bk S.1)) j)) (rfl) (by omega) (by decide)) dX9_findReaches_119 ?_
                        refine top_i (y := (h8 (100 * lgN (SB (Bk S.1)) i + lgN (SB (Bk S.1)) j))) (ld_ix (f := h8) (x := (nI (100 * lgN (SB (Bk S.1)) i + lgN (SB (Bk S.1)) j))) (e := (100 * lgN (SB (Bk S.1)) i + lgN (SB (Bk S.1)) j)) (n := 10000) (rfl) (by omega) (by decide)) ?_
                        refine lv_icmp_ge (tgt := 129) hx hb dX9_findReaches_120 (by decide) (fun c_120 => ?_) (fun c_120 => ?_)
                        · refine lv_aload_n hx hb dX9_findReaches_129 rfl (lv_at hl 3 rfl) ?_
                          refine va_get (D := D) (ci := 9) (v := .ref zo) (C := RX9) (T := TX9) (N := 26) hx hb hts hiX9 hown hK hP 0 rfl rfl 12 (by decide) (hts (.fieldLink RX9 35 "LedgeLeapsModel" "slow" "[I") (List.mem_of_getElem? (i := 2) rfl)) (fun _ h9 => h9) rfl dX9_findReaches_130 ?_
                          refine lv_iload_n hx hb dX9_findReaches_133 rfl (lv_at hl 0 rfl) ?_
                          refine va_iald hx hb hK hP 5 0 rfl rfl (vp_ix (e := (100 * lgN (SB (Bk S.1)) i + lgN (SB (Bk S.1)) j)) (rfl) (by omega) (by decide)) dX9_findReaches_134 ?_
                          refine top_i (y := (h8 (100 * lgN (SB (Bk S.1)) i + lgN (SB (Bk S.1)) j))) (ld_ix (f := h8) (x := (nI (100 * lgN (SB (Bk S.1)) i + lgN (SB (Bk S.1)) j))) (e := (100 * lgN (SB (Bk S.1)) i + lgN (SB (Bk S.1)) j)) (n := 10000) (rfl) (by omega) (by decide)) ?_
                          refine va_iast hx hb hK hP hD hS 5 0 rfl rfl (vp_ix (e := (100 * lgN (SB (Bk S.1)) i + lgN (SB (Bk S.1)) j)) (rfl) (by omega) (by decide)) dX9_findReaches_135 (fun H locs hP hD hS => ?_)
                          rw [cl_ix (x := (nI (100 * lgN (SB (Bk S.1)) i + lgN (SB (Bk S.1)) j))) (e := (100 * lgN (SB (Bk S.1)) i + lgN (SB (Bk S.1)) j)) (n := 10000) (rfl) (by omega) (by decide)] at hP hD
                          have hP : va_P D vwCl (oX9 mo zs zv vn zl zk zt vl vh zg zi zw (nI (nS S)) zo ze (nI (j % 20)) (nI (j / 20)) u_77.2.2.1 u_77.2.2.2.1 (bI u_77.2.2.2.2) vp va vb vd vq zd vz :: aI cI zs 28 gs :: aI cI zg 200 u_1.1 :: aI cI zi 100 u_1.2.1 :: aI cI zw 100 u_1.2.2 :: aI cI zo 10000 (upd h8 (100 * lgN (SB (Bk S.1)) i + lgN (SB (Bk S.1)) j) (h8 (100 * lgN (SB (Bk S.1)) i + lgN (SB (Bk S.1)) j))) :: X) H := hP
                          have hD : va_D A (oX9 mo zs zv vn zl zk zt vl vh zg zi zw (nI (nS S)) zo ze (nI (j % 20)) (nI (j / 20)) u_77.2.2.1 u_77.2.2.2.1 (bI u_77.2.2.2.2) vp va vb vd vq zd vz :: aI cI zs 28 gs :: aI cI zg 200 u_1.1 :: aI cI zi 100 u_1.2.1 :: aI cI zw 100 u_1.2.2 :: aI cI zo 10000 (upd h8 (100 * lgN (SB (Bk S.1)) i + lgN (SB (Bk S.1)) j) (h8 (100 * lgN (SB (Bk S.1)) i + lgN (SB (Bk S.1)) j))) :: X) := hD
                          refine lv_iinc (v := (nI (k + 1))) (lv' := [(2, .int (nI (k + 1))), (3, .int (nI (100 * lgN (SB (Bk S.1)) i + lgN (SB (Bk S.1)) j))), (1, .int (nI i)), (0, .ref mo)]) hx hb dX9_findReaches_136 hl (k := 1) rfl (nI_1 k) (by decide) rfl (fun ls hl => ?_)
                          refine lv_goto (tgt := 42) hx hb dX9_findReaches_139 (by decide) ?_
                          exact ih_42 (k + 1) (upd h8 (100 * lgN (SB (Bk S.1)) i + lgN (SB (Bk S.1)) j) (h8 (100 * lgN (SB (Bk S.1)) i + lgN (SB (Bk S.1)) j))) (nI (j % 20)) (nI (j / 20)) u_77.2.2.1 u_77.2.2.2.1 u_77.2.2.2.2 (by omega) (by omega) (EvK_add hI (by omega) hEv (by omega) (Or.inr ⟨Int32.not_lt.mpr c_120, rfl⟩)) _ _ (hP) (hD) hS _ (lv_sub hl [0, 2, 3] rfl)
                        · refine lv_iload_n hx hb dX9_findReaches_123 rfl (lv_at hl 1 rfl) ?_
                          refine lv_iconst (v := 2) hx hb dX9_findReaches_124 (by decide) ?_
                          refine lv_idiv hx hb dX9_findReaches_125 (by decide) ?_
                          refine top_i (y := (nI (k / 2))) (pk_div (by omega) (by decide) (by decide)) ?_
                          refine lv_goto (tgt := 135) hx hb dX9_findReaches_126 (by decide) ?_
                          refine va_iast hx hb hK hP hD hS 5 0 rfl rfl (vp_ix (e := (100 * lgN (SB (Bk S.1)) i + lgN (SB (Bk S.1)) j)) (rfl) (by omega) (by decide)) dX9_findReaches_135 (fun H locs hP hD hS => ?_)
                          rw [cl_ix (x := (nI (100 * lgN (SB (Bk S.1)) i + lgN (SB (Bk S.1)) j))) (e := (100 * lgN (SB (Bk S.1)) i + lgN (SB (Bk S.1)) j)) (n := 10000) (rfl) (by omega) (by decide)] at hP hD
                          have hP : va_P D vwCl (oX9 mo zs zv vn zl zk zt vl vh zg zi zw (nI (nS S)) zo ze (nI (j % 20)) (nI (j / 20)) u_77.2.2.1 u_77.2.2.2.1 (bI u_77.2.2.2.2) vp va vb vd vq zd vz :: aI cI zs 28 gs :: aI cI zg 200 u_1.1 :: aI cI zi 100 u_1.2.1 :: aI cI zw 100 u_1.2.2 :: aI cI zo 10000 (upd h8 (100 * lgN (SB (Bk S.1)) i + lgN (SB (Bk S.1)) j) (nI (k / 2))) :: X) H := hP
                          have hD : va_D A (oX9 mo zs zv vn zl zk zt vl vh zg zi zw (nI (nS S)) zo ze (nI (j % 20)) (nI (j / 20)) u_77.2.2.1 u_77.2.2.2.1 (bI u_77.2.2.2.2) vp va vb vd vq zd vz :: aI cI zs 28 gs :: aI cI zg 200 u_1.1 :: aI cI zi 100 u_1.2.1 :: aI cI zw 100 u_1.2.2 :: aI cI zo 10000 (upd h8 (100 * lgN (SB (Bk S.1)) i + lgN (SB (Bk S.1)) j) (nI (k / 2))) :: X) := hD
                          refine lv_iinc (v := (nI (k + 1))) (lv' := [(2, .int (nI (k + 1))), (3, .int (nI (100 * lgN (SB (Bk S.1)) i + lgN (SB (Bk S.1)) j))), (1, .int (nI i)), (0, .ref mo)]) hx hb dX9_findReaches_136 hl (k := 1) rfl (nI_1 k) (by decide) rfl (fun ls hl => ?_)
                          refine lv_goto (tgt := 42) hx hb dX9_findReaches_139 (by decide) ?_
                          exact ih_42 (k + 1) (upd h8 (100 * lgN (SB (Bk S.1)) i + lgN (SB (Bk S.1)) j) (nI (k / 2))) (nI (j % 20)) (nI (j / 20)) u_77.2.2.1 u_77.2.2.2.1 u_77.2.2.2.2 (by omega) (by omega) (EvK_add hI (by omega) hEv (by omega) (Or.inl ⟨Int32.not_le.mp c_120, rfl⟩)) _ _ (hP) (hD) hS _ (lv_sub hl [0, 2, 3] rfl)
              exact loop_42 _ 0 h9 x1 x2 x3 x4 b5 (Nat.lt_succ_self _) (Nat.zero_le _) (EvK_nil hI9) _ _ hP hD hS _ (lv_sub hl [0, 1, 2] rfl)
        exact loop_33 _ 0 (fillX 9 go (nS S * 100)) vc vr vt vo vm (Nat.lt_succ_self _) (Nat.zero_le _) (by rw [Nat.mul_comm]; exact find9 go) _ _ hP hD hS _ (lv_sub hl [0, 1] rfl)
      · have hz2 : z < nS S * 100 := lt_of_nge (a := nS S * 100) (b := z) (by omega) (by omega) c_14
        refine lv_aload_n hx hb dX9_findReaches_17 rfl (lv_at hl 1 rfl) ?_
        refine va_get (D := D) (ci := 9) (v := .ref zo) (C := RX9) (T := TX9) (N := 26) hx hb hts hiX9 hown hK hP 0 rfl rfl 12 (by decide) (hts (.fieldLink RX9 35 "LedgeLeapsModel" "slow" "[I") (List.mem_of_getElem? (i := 2) rfl)) (fun _ h9 => h9) rfl dX9_findReaches_18 ?_
        refine lv_iload_n hx hb dX9_findReaches_21 rfl (lv_at hl 0 rfl) ?_
        refine lv_bipush (v := 9) hx hb dX9_findReaches_22 (by decide) ?_
        refine va_iast hx hb hK hP hD hS 5 0 rfl rfl (vp_ix (e := z) (rfl) (by omega) (by decide)) dX9_findReaches_24 (fun H locs hP hD hS => ?_)
        rw [cl_ix (x := (nI z)) (e := z) (n := 10000) (rfl) (by omega) (by decide)] at hP hD
        have hP : va_P D vwCl (oX9 mo zs zv vn zl zk zt vl vh zg zi zw (nI (nS S)) zo ze vc vr vt vo (bI vm) vp va vb vd vq zd vz :: aI cI zs 28 gs :: aI cI zg 200 u_1.1 :: aI cI zi 100 u_1.2.1 :: aI cI zw 100 u_1.2.2 :: aI cI zo 10000 (upd (fillX 9 go z) z 9) :: X) H := hP
        have hD : va_D A (oX9 mo zs zv vn zl zk zt vl vh zg zi zw (nI (nS S)) zo ze vc vr vt vo (bI vm) vp va vb vd vq zd vz :: aI cI zs 28 gs :: aI cI zg 200 u_1.1 :: aI cI zi 100 u_1.2.1 :: aI cI zw 100 u_1.2.2 :: aI cI zo 10000 (upd (fillX 9 go z) z 9) :: X) := hD
        refine lv_iinc (v := (nI (z + 1))) (lv' := [(1, .int (nI (z + 1))), (0, .ref mo)]) hx hb dX9_findReaches_25 hl (k := 0) rfl (nI_1 z) (by decide) rfl (fun ls hl => ?_)
        refine lv_goto (tgt := 6) hx hb dX9_findReaches_28 (by decide) ?_
        rw [fillX_s] at hP hD
        exact ih_6 (z + 1) (by omega) (by omega) _ _ (hP) (hD) hS _ (lv_sub hl [0, 1] rfl)
  rw [← fillX_0 9 go] at hP hD
  exact loop_6 _ 0 (Nat.lt_succ_self _) (Nat.zero_le _) _ _ hP hD hS _ (lv_sub hl [0, 1] rfl)
set_option maxHeartbeats 4000000 in
set_option maxRecDepth 100000 in
theorem n_comesTo (l : Launch) (D : va_G) (cI cZ cW cJ : ClassId) (A : Nat → Prop) (X : va_W) (mo zs zv zl zk zt zg zi zw zo ze zd : Nat) (vn vl vh vg vc vr vt vo vp va vb vd vq : Int32) (vm : Bool) (vz : Int64) (go : Nat → Int32) (S : KS) (aa ab ak : Nat) (hR : RchM S go) (haa : aa < nS S) (hab : ab < nS S) (hak : ak ≤ 3) : Met l yX9_comesTo wsX9_comesTo ({ frames := 0, cells := 0, slots := 0, locals := 0 }) (va_Pc [.ref mo, .int (nI aa), .int (nI ab), .int (nI ak)] (wd D (tyL cI cZ cW cJ) A (oX9 mo zs zv vn zl zk zt vl vh zg zi zw vg zo ze vc vr vt vo (bI vm) vp va vb vd vq zd vz :: aI cI zo 10000 go :: X))) (va_Qi (fun (r : Int32) (u : Unit) => r = bI (RS S ak aa ab)) (fun (u : Unit) t => wq D A (oX9 mo zs zv vn zl zk zt vl vh zg zi zw vg zo ze vc vr vt vo (bI vm) vp va vb vd vq zd vz :: aI cI zo 10000 go :: X) t) A) 0 0 A := by
  refine Met.ofW (cc := cX9_comesTo) (maxL := 4) (ret := (some .boolean)) (by decide) rfl ?_
  intro p e s m args below meth c s₁ B hml hv
  obtain ⟨rfl, hsz9, hP, hK, hD, hN⟩ := hv
  have hx := B.exec
  have hb := B.bytes
  have hr := B.returns
  have hts := atoms_spec (ws := wsX9_comesTo) B.pre
  have hown : s.vm.findClass RX9 = some m.cls := findClass_of_methodNamed B.named
  have hlocks := B.notSynchronized
  have CF : CallFix p m c cX9_comesTo 4 s _ wsX9_comesTo RX9 := ⟨hx, hb, hml, hown, hts⟩
  have hA : ∀ q : Nat, s.heap.size ≤ q → A q := hsz9
  have hS : va_S A s.heap s.heap [] := va_S.rf
  have hiX9 : ∀ w ∈ u_ws RX9 TX9 26, w ∈ wsX9_comesTo := fun _ h => List.mem_cons_of_mem _ (List.mem_append_right _ (h))
  have hl := lv_entry ([.ref mo, .int (nI aa), .int (nI ab), .int (nI ak)]) (n := 4) (Nat.le_of_ble_eq_true rfl)
  rw [lg_entry_eq]
  generalize (lg_sl ([.ref mo, .int (nI aa), .int (nI ab), .int (nI ak)]) ++ List.replicate (4 - (lg_sl ([.ref mo, .int (nI aa), .int (nI ab), .int (nI ak)])).length) Slot.unset).toArray = ls at hl ⊢
  have hl : lv_has ls 4 [(0, .ref mo), (1, .int (nI aa)), (2, .int (nI ab)), (3, .int (nI ak))] := hl
  show W p l e ({ frames := 0, cells := 0, slots := 0, locals := 0 } : Room) s m (([.ref mo, .int (nI aa), .int (nI ab), .int (nI ak)] : List Value).toArray) below meth c s.heap [] 0 0 (MQ below (va_Qi (fun (r : Int32) (u : Unit) => r = bI (RS S ak aa ab)) (fun (u : Unit) t => wq D A (oX9 mo zs zv vn zl zk zt vl vh zg zi zw vg zo ze vc vr vt vo (bI vm) vp va vb vd vq zd vz :: aI cI zo 10000 go :: X) t) A) (([.ref mo, .int (nI aa), .int (nI ab), .int (nI ak)] : List Value).toArray) s 0 0 A) (F0 m 0 ls [])
  have hn9 : nS S ≤ 100 := nL_le _
  refine lv_aload_n hx hb dX9_comesTo_0 rfl (lv_at hl 0 rfl) ?_
  refine va_get (D := D) (ci := 9) (v := .ref zo) (C := RX9) (T := TX9) (N := 26) hx hb hts hiX9 hown hK hP 0 rfl rfl 12 (by decide) (hts (.fieldLink RX9 35 "LedgeLeapsModel" "slow" "[I") (List.mem_of_getElem? (i := 1) rfl)) (fun _ h9 => h9) rfl dX9_comesTo_1 ?_
  refine lv_bipush (v := 100) hx hb dX9_comesTo_4 (by decide) ?_
  refine lv_iload_n hx hb dX9_comesTo_6 rfl (lv_at hl 1 rfl) ?_
  refine lv_imul hx hb dX9_comesTo_7 ?_
  refine top_i (y := (nI (100 * aa))) (pk_mul 100 aa) ?_
  refine lv_iload_n hx hb dX9_comesTo_8 rfl (lv_at hl 2 rfl) ?_
  refine lv_iadd hx hb dX9_comesTo_9 ?_
  refine top_i (y := (nI (100 * aa + ab))) (nI_add _ _) ?_
  refine va_iald hx hb hK hP 1 0 rfl rfl (vp_ix (e := (100 * aa + ab)) (rfl) (by omega) (by decide)) dX9_comesTo_10 ?_
  refine top_i (y := (go (100 * aa + ab))) (ld_ix (f := go) (x := (nI (100 * aa + ab))) (e := (100 * aa + ab)) (n := 10000) (rfl) (by omega) (by decide)) ?_
  refine lv_iload_n hx hb dX9_comesTo_11 rfl (lv_at hl 3 rfl) ?_
  refine lv_icmp_gt (tgt := 19) hx hb dX9_comesTo_12 (by decide) (fun c_12 => ?_) (fun c_12 => ?_)
  · refine lv_iconst (v := 0) hx hb dX9_comesTo_19 (by decide) ?_
    exact W.zret (v := 0) (ty := .boolean) hx hb hr (rfl) (fun t9 ht9 hW9 => ⟨⟨0, (), rfl, by rw [← hR.R haa hab hak, decide_eq_false (Int32.not_le.mpr c_12)]; rfl, by rw [ht9]; exact hP, hD⟩, hS.F ht9⟩) hS.2.2 dX9_comesTo_20
  · refine lv_iconst (v := 1) hx hb dX9_comesTo_15 (by decide) ?_
    refine lv_goto (tgt := 20) hx hb dX9_comesTo_16 (by decide) ?_
    exact W.zret (v := 1) (ty := .boolean) hx hb hr (rfl) (fun t9 ht9 hW9 => ⟨⟨1, (), rfl, by rw [← hR.R haa hab hak, decide_eq_true (Int32.not_lt.mp c_12)]; rfl, by rw [ht9]; exact hP, hD⟩, hS.F ht9⟩) hS.2.2 dX9_comesTo_20
set_option maxHeartbeats 4000000 in
set_option maxRecDepth 100000 in
theorem n_spread (l : Launch) (D : va_G) (cI cZ cW cJ : ClassId) (A : Nat → Prop) (X : va_W) (mo zs zv zl zk zt zg zi zw zo ze zd : Nat) (vn vl vh vc vr vt vo vp va vb vd vq : Int32) (vm : Bool) (vz : Int64) (go ge : Nat → Int32) (S : KS) (ao ak : Nat) (hR : RchM S go) (hao : ao < nS S) (hak : ak ≤ 3) : Met l yX9_spread wsX9_spread ({ frames := 1, cells := 0, slots := 0, locals := 23 }) (va_Pc [.ref mo, .int (nI ao), .int (nI ak)] (wd D (tyL cI cZ cW cJ) A (oX9 mo zs zv vn zl zk zt vl vh zg zi zw (nI (nS S)) zo ze vc vr vt vo (bI vm) vp va vb vd vq zd vz :: aI cI zo 10000 go :: aI cI ze 100 ge :: X))) (va_Qv (fun (u : Nat → Int32) => ∀ b, b < nS S → u b = dS S ak ao b) (fun (u : Nat → Int32) t => wq D A (oX9 mo zs zv vn zl zk zt vl vh zg zi zw (nI (nS S)) zo ze vc vr vt vo (bI vm) vp va vb vd vq zd vz :: aI cI zo 10000 go :: aI cI ze 100 u :: X) t) A) 0 0 A := by
  refine Met.ofW (cc := cX9_spread) (maxL := 7) (ret := none) (by decide) rfl ?_
  intro p e s m args below meth c s₁ B hml hv
  obtain ⟨rfl, hsz9, hP, hK, hD, hN⟩ := hv
  have hx := B.exec
  have hb := B.bytes
  have hr := B.returns
  have hts := atoms_spec (ws := wsX9_spread) B.pre
  have hown : s.vm.findClass RX9 = some m.cls := findClass_of_methodNamed B.named
  have hlocks := B.notSynchronized
  have CF : CallFix p m c cX9_spread 7 s _ wsX9_spread RX9 := ⟨hx, hb, hml, hown, hts⟩
  have hA : ∀ q : Nat, s.heap.size ≤ q → A q := hsz9
  have hS : va_S A s.heap s.heap [] := va_S.rf
  have hiX9 : ∀ w ∈ u_ws RX9 TX9 26, w ∈ wsX9_spread := fun _ h => List.mem_cons_of_mem _ (List.mem_append_right _ (h))
  have hl := lv_entry ([.ref mo, .int (nI ao), .int (nI ak)]) (n := 7) (Nat.le_of_ble_eq_true rfl)
  rw [lg_entry_eq]
  generalize (lg_sl ([.ref mo, .int (nI ao), .int (nI ak)]) ++ List.replicate (7 - (lg_sl ([.ref mo, .int (nI ao), .int (nI ak)])).length) Slot.unset).toArray = ls at hl ⊢
  have hl : lv_has ls 7 [(0, .ref mo), (1, .int (nI ao)), (2, .int (nI ak))] := hl
  show W p l e ({ frames := 1, cells := 0, slots := 0, locals := 23 } : Room) s m (([.ref mo, .int (nI ao), .int (nI ak)] : List Value).toArray) below meth c s.heap [] 0 0 (MQ below (va_Qv (fun (u : Nat → Int32) => ∀ b, b < nS S → u b = dS S ak ao b) (fun (u : Nat → Int32) t => wq D A (oX9 mo zs zv vn zl zk zt vl vh zg zi zw (nI (nS S)) zo ze vc vr vt vo (bI vm) vp va vb vd vq zd vz :: aI cI zo 10000 go :: aI cI ze 100 u :: X) t) A) (([.ref mo, .int (nI ao), .int (nI ak)] : List Value).toArray) s 0 0 A) (F0 m 0 ls [])
  have hn9 : nS S ≤ 100 := nL_le _
  refine lv_iconst (v := 0) hx hb dX9_spread_0 (by decide) ?_
  refine lv_istore_n (lv' := [(3, .int 0), (0, .ref mo), (1, .int (nI ao)), (2, .int (nI ak))]) hx hb dX9_spread_1 rfl hl (by decide) rfl (fun ls hl => ?_)
  have loop_2 : ∀ (nfu : Nat) (i : Nat) (hn_2 : (nS S) - i < nfu) (hi : i ≤ (nS S)) (H : Heap) (locs : List Loc) (hP : va_P D vwCl (oX9 mo zs zv vn zl zk zt vl vh zg zi zw (nI (nS S)) zo ze vc vr vt vo (bI vm) vp va vb vd vq zd vz :: aI cI zo 10000 go :: aI cI ze 100 (spI ao ge i) :: X) H) (hD : va_D A (oX9 mo zs zv vn zl zk zt vl vh zg zi zw (nI (nS S)) zo ze vc vr vt vo (bI vm) vp va vb vd vq zd vz :: aI cI zo 10000 go :: aI cI ze 100 (spI ao ge i) :: X)) (hS : va_S A s.heap H locs) (ls : Array Slot) (hl : lv_has ls 7 [(3, .int (nI i)), (1, .int (nI ao)), (2, .int (nI ak)), (0, .ref mo)]), W p l e ({ frames := 1, cells := 0, slots := 0, locals := 23 } : Room) s m (([.ref mo, .int (nI ao), .int (nI ak)] : List Value).toArray) below meth c H locs 0 0 (MQ below (va_Qv (fun (u : Nat → Int32) => ∀ b, b < nS S → u b = dS S ak ao b) (fun (u : Nat → Int32) t => wq D A (oX9 mo zs zv vn zl zk zt vl vh zg zi zw (nI (nS S)) zo ze vc vr vt vo (bI vm) vp va vb vd vq zd vz :: aI cI zo 10000 go :: aI cI ze 100 u :: X) t) A) (([.ref mo, .int (nI ao), .int (nI ak)] : List Value).toArray) s 0 0 A) (F0 m 2 ls []) := by
    intro nfu
    induction nfu with
    | zero => intro i hn_2; exact absurd hn_2 (Nat.not_lt_zero _)
    | succ nfu ih_2 =>
      intro i hn_2 hi H locs hP hD hS ls hl
      refine lv_iload_n hx hb dX9_spread_2 rfl (lv_at hl 0 rfl) ?_
      refine lv_aload_n hx hb dX9_spread_3 rfl (lv_at hl 3 rfl) ?_
      refine va_get (D := D) (ci := 9) (v := .int (nI (nS S))) (C := RX9) (T := TX9) (N := 26) hx hb hts hiX9 hown hK hP 0 rfl rfl 11 (by decide) (hts (.fieldLink RX9 66 "LedgeLeapsModel" "ledges" "I") (List.mem_of_getElem? (i := 1) rfl)) (fun _ h9 => h9) rfl dX9_spread_4 ?_
      refine lv_icmp_ge (tgt := 32) hx hb dX9_spread_7 (by decide) (fun c_7 => ?_) (fun c_7 => ?_)
      · obtain rfl : i = nS S := by have h := le_of_ge (a := (nS S)) (b := i) (by omega) (by omega) c_7; omega
        refine lv_iconst (v := 1) hx hb dX9_spread_32 (by decide) ?_
        refine lv_istore_n (lv' := [(3, .int 1), (1, .int (nI ao)), (2, .int (nI ak)), (0, .ref mo)]) hx hb dX9_spread_33 rfl hl (by decide) rfl (fun ls hl => ?_)
        refine lv_iconst (v := 0) hx hb dX9_spread_34 (by decide) ?_
        refine lv_istore (lv' := [(4, .int 0), (3, .int 1), (1, .int (nI ao)), (2, .int (nI ak)), (0, .ref mo)]) hx hb dX9_spread_35 hl (by decide) rfl (fun ls hl => ?_)
        have loop_37 : ∀ (nfu : Nat) (n9 : Nat) (h9 : Nat → Int32) (m9 : Bool) (hn_37 : 2 * cntB (neg1 h9) (nS S) + (if m9 = true then 1 else 0) < nfu) (hL0 : LV (RS S ak) (nS S) ao n9 h9) (hnc : (m9 = true → n9 + cntB (neg1 h9) (nS S) + 1 ≤ (nS S)) ∧ n9 ≤ 101) (hno : m9 = false → ∀ v, v < (nS S) → ¬ h9 v = nI n9) (H : Heap) (locs : List Loc) (hP : va_P D vwCl (oX9 mo zs zv vn zl zk zt vl vh zg zi zw (nI (nS S)) zo ze vc vr vt vo (bI vm) vp va vb vd vq zd vz :: aI cI zo 10000 go :: aI cI ze 100 h9 :: X) H) (hD : va_D A (oX9 mo zs zv vn zl zk zt vl vh zg zi zw (nI (nS S)) zo ze vc vr vt vo (bI vm) vp va vb vd vq zd vz :: aI cI zo 10000 go :: aI cI ze 100 h9 :: X)) (hS : va_S A s.heap H locs) (ls : Array Slot) (hl : lv_has ls 7 [(3, .int (bI m9)), (4, .int (nI n9)), (1, .int (nI ao)), (2, .int (nI ak)), (0, .ref mo)]), W p l e ({ frames := 1, cells := 0, slots := 0, locals := 23 } : Room) s m (([.ref mo, .int (nI ao), .int (nI ak)] : List Value).toArray) below meth c H locs 0 0 (MQ below (va_Qv (fun (u : Nat → Int32) => ∀ b, b < nS S → u b = dS S ak ao b) (fun (u : Nat → Int32) t => wq D A (oX9 mo zs zv vn zl zk zt vl vh zg zi zw (nI (nS S)) zo ze vc vr vt vo (bI vm) vp va vb vd vq zd vz :: aI cI zo 10000 go :: aI cI ze 100 u :: X) t) A) (([.ref mo, .int (nI ao), .int (nI ak)] : List Value).toArray) s 0 0 A) (F0 m 37 ls []) := by
          intro nfu
          induction nfu with
          | zero => intro n9 h9 m9 hn_37; exact absurd hn_37 (Nat.not_lt_zero _)
          | succ nfu ih_37 =>
            intro n9 h9 m9 hn_37 hL0 hnc hno H locs hP hD hS ls hl
            refine lv_iload_n hx hb dX9_spread_37 rfl (lv_at hl 0 rfl) ?_
            refine lv_if_eq (tgt := 133) hx hb dX9_spread_38 (by decide) (fun c_38 => ?_) (fun c_38 => ?_)
            · exact W.vret hx hb hr (fun t9 ht9 hW9 => ⟨⟨h9, rfl, fun b hb => (hL0.done (R := RS S ak) (by omega) hao (hno (bf_c c_38)) hb).toV, by rw [ht9]; exact hP, hD⟩, hS.F ht9⟩) hS.2.2 dX9_spread_133
            · have hmt : m9 = true := bt_c c_38
              have hms := hn_37
              rw [if_pos hmt] at hms
              have hnn : n9 < 900 := by omega
              have hnc1 := hnc.1 hmt
              refine lv_iconst (v := 0) hx hb dX9_spread_41 (by decide) ?_
              refine lv_istore_n (lv' := [(3, .int 0), (4, .int (nI n9)), (1, .int (nI ao)), (2, .int (nI ak)), (0, .ref mo)]) hx hb dX9_spread_42 rfl hl (by decide) rfl (fun ls hl => ?_)
              refine lv_iconst (v := 0) hx hb dX9_spread_43 (by decide) ?_
              refine lv_istore (lv' := [(5, .int 0), (3, .int 0), (4, .int (nI n9)), (1, .int (nI ao)), (2, .int (nI ak)), (0, .ref mo)]) hx hb dX9_spread_44 hl (by decide) rfl (fun ls hl => ?_)
              have loop_46 : ∀ (nfu : Nat) (k : Nat) (h8 : Nat → Int32) (m8 : Bool) (hn_46 : (nS S) - k < nfu) (hk : k ≤ (nS S)) (hL : LVk (RS S ak) (nS S) ao n9 k 0 h9 h8 m8) (H : Heap) (locs : List Loc) (hP : va_P D vwCl (oX9 mo zs zv vn zl zk zt vl vh zg zi zw (nI (nS S)) zo ze vc vr vt vo (bI vm) vp va vb vd vq zd vz :: aI cI zo 10000 go :: aI cI ze 100 h8 :: X) H) (hD : va_D A (oX9 mo zs zv vn zl zk zt vl vh zg zi zw (nI (nS S)) zo ze vc vr vt vo (bI vm) vp va vb vd vq zd vz :: aI cI zo 10000 go :: aI cI ze 100 h8 :: X)) (hS : va_S A s.heap H locs) (ls : Array Slot) (hl : lv_has ls 7 [(5, .int (nI k)), (3, .int (bI m8)), (4, .int (nI n9)), (1, .int (nI ao)), (2, .int (nI ak)), (0, .ref mo)]), W p l e ({ frames := 1, cells := 0, slots := 0, locals := 23 } : Room) s m (([.ref mo, .int (nI ao), .int (nI ak)] : List Value).toArray) below meth c H locs 0 0 (MQ below (va_Qv (fun (u : Nat → Int32) => ∀ b, b < nS S → u b = dS S ak ao b) (fun (u : Nat → Int32) t => wq D A (oX9 mo zs zv vn zl zk zt vl vh zg zi zw (nI (nS S)) zo ze vc vr vt vo (bI vm) vp va vb vd vq zd vz :: aI cI zo 10000 go :: aI cI ze 100 u :: X) t) A) (([.ref mo, .int (nI ao), .int (nI ak)] : List Value).toArray) s 0 0 A) (F0 m 46 ls []) := by
                intro nfu
                induction nfu with
                | zero => intro k h8 m8 hn_46; exact absurd hn_46 (Nat.not_lt_zero _)
                | succ nfu ih_46 =>
                  intro k h8 m8 hn_46 hk hL H locs hP hD hS ls hl
                  refine lv_iload hx hb dX9_spread_46 (lv_at hl 0 rfl) ?_
                  refine lv_aload_n hx hb dX9_spread_48 rfl (lv_at hl 5 rfl) ?_
                  refine va_get (D := D) (ci := 9) (v := .int (nI (nS S))) (C := RX9) (T := TX9) (N := 26) hx hb hts hiX9 hown hK hP 0 rfl rfl 11 (by decide) (hts (.fieldLink RX9 66 "LedgeLeapsModel" "ledges" "I") (List.mem_of_getElem? (i := 1) rfl)) (fun _ h9 => h9) rfl dX9_spread_49 ?_
                  refine lv_icmp_ge (tgt := 127) hx hb dX9_spread_52 (by decide) (fun c_52 => ?_) (fun c_52 => ?_)
                  · have hkN : k = nS S := by have h := le_of_ge (a := (nS S)) (b := k) (by omega) (by omega) c_52; omega
                    have hLN : LVk (RS S ak) (nS S) ao n9 (nS S) 0 h9 h8 m8 := by rw [hkN] at hL; exact hL
                    have hcn : m8 = false → cntB (neg1 h8) (nS S) = cntB (neg1 h9) (nS S) := fun q => cntB_cong (fun b hb => by unfold neg1; rw [hL.2.2.1 q b hb])
                    refine lv_iinc (v := (nI (n9 + 1))) (lv' := [(4, .int (nI (n9 + 1))), (5, .int (nI k)), (3, .int (bI m8)), (1, .int (nI ao)), (2, .int (nI ak)), (0, .ref mo)]) hx hb dX9_spread_127 hl (k := 2) rfl (nI_1 n9) (by decide) rfl (fun ls hl => ?_)
                    refine lv_goto (tgt := 37) hx hb dX9_spread_130 (by decide) ?_
                    exact ih_37 (n9 + 1) h8 m8 (by cases m8 with | false => (have := hcn rfl; simp; omega) | true => (have := hL.less hnn; simp; omega)) (hL0.step hnn hLN) (⟨fun q => by subst q; have := hL.less hnn; omega, by omega⟩) (fun q => by subst q; exact hL.none hL0 hnn) _ _ (hP) (hD) hS _ (lv_sub hl [2, 0, 3, 4, 5] rfl)
                  · have hk2 : k < nS S := lt_of_nge (a := (nS S)) (b := k) (by omega) (by omega) c_52
                    refine lv_iconst (v := 0) hx hb dX9_spread_55 (by decide) ?_
                    refine lv_istore (lv' := [(6, .int 0), (5, .int (nI k)), (3, .int (bI m8)), (4, .int (nI n9)), (1, .int (nI ao)), (2, .int (nI ak)), (0, .ref mo)]) hx hb dX9_spread_56 hl (by decide) rfl (fun ls hl => ?_)
                    have loop_58 : ∀ (nfu : Nat) (x : Nat) (h7 : Nat → Int32) (m7 : Bool) (hn_58 : (nS S) - x < nfu) (hx9 : x ≤ (nS S)) (hL7 : LVk (RS S ak) (nS S) ao n9 k x h9 h7 m7) (H : Heap) (locs : List Loc) (hP : va_P D vwCl (oX9 mo zs zv vn zl zk zt vl vh zg zi zw (nI (nS S)) zo ze vc vr vt vo (bI vm) vp va vb vd vq zd vz :: aI cI zo 10000 go :: aI cI ze 100 h7 :: X) H) (hD : va_D A (oX9 mo zs zv vn zl zk zt vl vh zg zi zw (nI (nS S)) zo ze vc vr vt vo (bI vm) vp va vb vd vq zd vz :: aI cI zo 10000 go :: aI cI ze 100 h7 :: X)) (hS : va_S A s.heap H locs) (ls : Array Slot) (hl : lv_has ls 7 [(6, .int (nI x)), (5, .int (nI k)), (3, .int (bI m7)), (4, .int (nI n9)), (1, .int (nI ao)), (2, .int (nI ak)), (0, .ref mo)]), W p l e ({ frames := 1, cells := 0, slots := 0, locals := 23 } : Room) s m (([.ref mo, .int (nI ao), .int (nI ak)] : List Value).toArray) below meth c H locs 0 0 (MQ below (va_Qv (fun (u : Nat → Int32) => ∀ b, b < nS S → u b = dS S ak ao b) (fun (u : Nat → Int32) t => wq D A (oX9 mo zs zv vn zl zk zt vl vh zg zi zw (nI (nS S)) zo ze vc vr vt vo (bI vm) vp va vb vd vq zd vz :: aI cI zo 10000 go :: aI cI ze 100 u :: X) t) A) (([.ref mo, .int (nI ao), .int (nI ak)] : List Value).toArray) s 0 0 A) (F0 m 58 ls []) := by
                      intro nfu
                      induction nfu with
                      | zero => intro x h7 m7 hn_58; exact absurd hn_58 (Nat.not_lt_zero _)
                      | succ nfu ih_58 =>
                        intro x h7 m7 hn_58 hx9 hL7 H locs hP hD hS ls hl
                        refine lv_iload hx hb dX9_spread_58 (lv_at hl 0 rfl) ?_
                        refine lv_aload_n hx hb dX9_spread_60 rfl (lv_at hl 6 rfl) ?_
                        refine va_get (D := D) (ci := 9) (v := .int (nI (nS S))) (C := RX9) (T := TX9) (N := 26) hx hb hts hiX9 hown hK hP 0 rfl rfl 11 (by decide) (hts (.fieldLink RX9 66 "LedgeLeapsModel" "ledges" "I") (List.mem_of_getElem? (i := 1) rfl)) (fun _ h9 => h9) rfl dX9_spread_61 ?_
                        refine lv_icmp_ge (tgt := 121) hx hb dX9_spread_64 (by decide) (fun c_64 => ?_) (fun c_64 => ?_)
                        · refine lv_iinc (v := (nI (k + 1))) (lv' := [(5, .int (nI (k + 1))), (6, .int (nI x)), (3, .int (bI m7)), (4, .int (nI n9)), (1, .int (nI ao)), (2, .int (nI ak)), (0, .ref mo)]) hx hb dX9_spread_121 hl (k := 1) rfl (nI_1 k) (by decide) rfl (fun ls hl => ?_)
                          refine lv_goto (tgt := 46) hx hb dX9_spread_124 (by decide) ?_
                          exact ih_46 (k + 1) h7 m7 (by omega) (by omega) (hL7.next (Or.inl (le_of_ge (a := (nS S)) (b := x) (by omega) (by omega) c_64))) _ _ (hP) (hD) hS _ (lv_sub hl [0, 2, 3, 4, 5, 6] rfl)
                        · have hx2 : x < nS S := lt_of_nge (a := (nS S)) (b := x) (by omega) (by omega) c_64
                          have hfk := hL7.eq hnn hk2
                          refine lv_aload_n hx hb dX9_spread_67 rfl (lv_at hl 6 rfl) ?_
                          refine va_get (D := D) (ci := 9) (v := .ref ze) (C := RX9) (T := TX9) (N := 26) hx hb hts hiX9 hown hK hP 0 rfl rfl 13 (by decide) (hts (.fieldLink RX9 38 "LedgeLeapsModel" "fewest" "[I") (List.mem_of_getElem? (i := 2) rfl)) (fun _ h9 => h9) rfl dX9_spread_68 ?_
                          refine lv_iload hx hb dX9_spread_71 (lv_at hl 1 rfl) ?_
                          refine va_iald hx hb hK hP 2 0 rfl rfl (vp_ix (e := k) (rfl) (by omega) (by decide)) dX9_spread_73 ?_
                          refine top_i (y := (h7 k)) (ld_ix (f := h7) (x := (nI k)) (e := k) (n := 100) (rfl) (by omega) (by decide)) ?_
                          refine lv_iload hx hb dX9_spread_74 (lv_at hl 3 rfl) ?_
                          refine lv_icmp_ne (tgt := 121) hx hb dX9_spread_76 (by decide) (fun c_76 => ?_) (fun c_76 => ?_)
                          · refine lv_iinc (v := (nI (k + 1))) (lv' := [(5, .int (nI (k + 1))), (6, .int (nI x)), (3, .int (bI m7)), (4, .int (nI n9)), (1, .int (nI ao)), (2, .int (nI ak)), (0, .ref mo)]) hx hb dX9_spread_121 hl (k := 1) rfl (nI_1 k) (by decide) rfl (fun ls hl => ?_)
                            refine lv_goto (tgt := 46) hx hb dX9_spread_124 (by decide) ?_
                            exact ih_46 (k + 1) h7 m7 (by omega) (by omega) (hL7.next (Or.inr (fun q => c_76 (hfk.mpr q)))) _ _ (hP) (hD) hS _ (lv_sub hl [0, 2, 3, 4, 5, 6] rfl)
                          · refine lv_aload_n hx hb dX9_spread_79 rfl (lv_at hl 6 rfl) ?_
                            refine va_get (D := D) (ci := 9) (v := .ref ze) (C := RX9) (T := TX9) (N := 26) hx hb hts hiX9 hown hK hP 0 rfl rfl 13 (by decide) (hts (.fieldLink RX9 38 "LedgeLeapsModel" "fewest" "[I") (List.mem_of_getElem? (i := 2) rfl)) (fun _ h9 => h9) rfl dX9_spread_80 ?_
                            refine lv_iload hx hb dX9_spread_83 (lv_at hl 0 rfl) ?_
                            refine va_iald hx hb hK hP 2 0 rfl rfl (vp_ix (e := x) (rfl) (by omega) (by decide)) dX9_spread_85 ?_
                            refine top_i (y := (h7 x)) (ld_ix (f := h7) (x := (nI x)) (e := x) (n := 100) (rfl) (by omega) (by decide)) ?_
                            refine lv_iconst (v := (-1)) hx hb dX9_spread_86 (by decide) ?_
                            refine lv_icmp_ne (tgt := 115) hx hb dX9_spread_87 (by decide) (fun c_87 => ?_) (fun c_87 => ?_)
                            · refine lv_iinc (v := (nI (x + 1))) (lv' := [(6, .int (nI (x + 1))), (5, .int (nI k)), (3, .int (bI m7)), (4, .int (nI n9)), (1, .int (nI ao)), (2, .int (nI ak)), (0, .ref mo)]) hx hb dX9_spread_115 hl (k := 0) rfl (nI_1 x) (by decide) rfl (fun ls hl => ?_)
                              refine lv_goto (tgt := 58) hx hb dX9_spread_118 (by decide) ?_
                              exact ih_58 (x + 1) h7 m7 (by omega) (by omega) (hL7.skip (Or.inl c_87)) _ _ (hP) (hD) hS _ (lv_sub hl [0, 1, 2, 3, 4, 5, 6] rfl)
                            · refine lv_aload_n hx hb dX9_spread_90 rfl (lv_at hl 6 rfl) ?_
                              refine lv_iload hx hb dX9_spread_91 (lv_at hl 1 rfl) ?_
                              refine lv_iload hx hb dX9_spread_93 (lv_at hl 0 rfl) ?_
                              refine lv_iload_n hx hb dX9_spread_95 rfl (lv_at hl 5 rfl) ?_
                              refine cV_i CF hK hN hA hS (cut_of 3 [0, 1, 2] hP hD rfl rfl rfl) (n_comesTo l D cI cZ cW cJ A (aI cI ze 100 h7 :: X) mo zs zv zl zk zt zg zi zw zo ze zd vn vl vh (nI (nS S)) vc vr vt vo vp va vb vd vq vm vz go S k x ak hR hk2 hx2 hak) (cwV 3 hts gX9_spread_X9_comesTo rfl rfl rfl (by decide +kernel) ⟨Nat.le_of_ble_eq_true rfl, Nat.le_of_ble_eq_true rfl⟩) (As := [.int (nI k), .int (nI x), .int (nI ak)]) (rest := []) (ci := 9) (q0 := 0) rfl rfl rfl hl.1 rfl (Nat.le_of_ble_eq_true rfl) dX9_spread_96 ⟨Nat.le_of_ble_eq_true rfl, Nat.le_of_ble_eq_true rfl⟩ (fun r_96 _ H locs hq hP hD hS => ?_)
                              have hq : r_96 = bI (RS S ak k x) := hq
                              subst hq
                              have hP : va_P D vwCl (oX9 mo zs zv vn zl zk zt vl vh zg zi zw (nI (nS S)) zo ze vc vr vt vo (bI vm) vp va vb vd vq zd vz :: aI cI zo 10000 go :: aI cI ze 100 h7 :: X) H := pm_P hP 3 [0, 1, 2] rfl
                              have hD : va_D A (oX9 mo zs zv vn zl zk zt vl vh zg zi zw (nI (nS S)) zo ze vc vr vt vo (bI vm) vp va vb vd vq zd vz :: aI cI zo 10000 go :: aI cI ze 100 h7 :: X) := pm_D hD 3 [0, 1, 2] rfl rfl rfl
                              refine lv_if_eq (tgt := 115) hx hb dX9_spread_99 (by decide) (fun c_99 => ?_) (fun c_99 => ?_)
                              · refine lv_iinc (v := (nI (x + 1))) (lv' := [(6, .int (nI (x + 1))), (5, .int (nI k)), (3, .int (bI m7)), (4, .int (nI n9)), (1, .int (nI ao)), (2, .int (nI ak)), (0, .ref mo)]) hx hb dX9_spread_115 hl (k := 0) rfl (nI_1 x) (by decide) rfl (fun ls hl => ?_)
                                refine lv_goto (tgt := 58) hx hb dX9_spread_118 (by decide) ?_
                                exact ih_58 (x + 1) h7 m7 (by omega) (by omega) (hL7.skip (Or.inr (bf_c c_99))) _ _ (hP) (hD) hS _ (lv_sub hl [0, 1, 2, 3, 4, 5, 6] rfl)
                              · refine lv_aload_n hx hb dX9_spread_102 rfl (lv_at hl 6 rfl) ?_
                                refine va_get (D := D) (ci := 9) (v := .ref ze) (C := RX9) (T := TX9) (N := 26) hx hb hts hiX9 hown hK hP 0 rfl rfl 13 (by decide) (hts (.fieldLink RX9 38 "LedgeLeapsModel" "fewest" "[I") (List.mem_of_getElem? (i := 2) rfl)) (fun _ h9 => h9) rfl dX9_spread_103 ?_
                                refine lv_iload hx hb dX9_spread_106 (lv_at hl 0 rfl) ?_
                                refine lv_iload hx hb dX9_spread_108 (lv_at hl 3 rfl) ?_
                                refine lv_iconst (v := 1) hx hb dX9_spread_110 (by decide) ?_
                                refine lv_iadd hx hb dX9_spread_111 ?_
                                refine top_i (y := (nI (n9 + 1))) (nI_1 n9) ?_
                                refine va_iast hx hb hK hP hD hS 2 0 rfl rfl (vp_ix (e := x) (rfl) (by omega) (by decide)) dX9_spread_112 (fun H locs hP hD hS => ?_)
                                rw [cl_ix (x := (nI x)) (e := x) (n := 100) (rfl) (by omega) (by decide)] at hP hD
                                have hP : va_P D vwCl (oX9 mo zs zv vn zl zk zt vl vh zg zi zw (nI (nS S)) zo ze vc vr vt vo (bI vm) vp va vb vd vq zd vz :: aI cI zo 10000 go :: aI cI ze 100 (upd h7 x (nI (n9 + 1))) :: X) H := hP
                                have hD : va_D A (oX9 mo zs zv vn zl zk zt vl vh zg zi zw (nI (nS S)) zo ze vc vr vt vo (bI vm) vp va vb vd vq zd vz :: aI cI zo 10000 go :: aI cI ze 100 (upd h7 x (nI (n9 + 1))) :: X) := hD
                                refine lv_iconst (v := 1) hx hb dX9_spread_113 (by decide) ?_
                                refine lv_istore_n (lv' := [(3, .int 1), (6, .int (nI x)), (5, .int (nI k)), (4, .int (nI n9)), (1, .int (nI ao)), (2, .int (nI ak)), (0, .ref mo)]) hx hb dX9_spread_114 rfl hl (by decide) rfl (fun ls hl => ?_)
                                refine lv_iinc (v := (nI (x + 1))) (lv' := [(6, .int (nI (x + 1))), (3, .int 1), (5, .int (nI k)), (4, .int (nI n9)), (1, .int (nI ao)), (2, .int (nI ak)), (0, .ref mo)]) hx hb dX9_spread_115 hl (k := 1) rfl (nI_1 x) (by decide) rfl (fun ls hl => ?_)
                                refine lv_goto (tgt := 58) hx hb dX9_spread_118 (by decide) ?_
                                exact ih_58 (x + 1) (upd h7 x (nI (n9 + 1))) true (by omega) (by omega) (hL7.set hnn hk2 hx2 (hfk.mp c_76) (hL0.at hnn hk2 (hfk.mp c_76)) c_87 (bt_c c_99)) _ _ (hP) (hD) hS _ (lv_sub hl [0, 2, 1, 3, 4, 5, 6] rfl)
                    exact loop_58 _ 0 h8 m8 (Nat.lt_succ_self _) (Nat.zero_le _) (hL) _ _ hP hD hS _ (lv_sub hl [0, 1, 2, 3, 4, 5, 6] rfl)
              exact loop_46 _ 0 h9 false (Nat.lt_succ_self _) (Nat.zero_le _) (LVk.init _ _ _ _ _) _ _ hP hD hS _ (lv_sub hl [0, 1, 2, 3, 4, 5] rfl)
        exact loop_37 _ 0 (spI ao ge (nS S)) true (Nat.lt_succ_self _) (LV_init ge) (⟨fun _ => by have := neg_init ge hao; omega, by decide⟩) (fun q => (by cases q)) _ _ hP hD hS _ (lv_sub hl [1, 0, 2, 3, 4] rfl)
      · have hi2 : i < (nS S) := lt_of_nge (a := (nS S)) (b := i) (by omega) (by omega) c_7
        refine lv_aload_n hx hb dX9_spread_10 rfl (lv_at hl 3 rfl) ?_
        refine va_get (D := D) (ci := 9) (v := .ref ze) (C := RX9) (T := TX9) (N := 26) hx hb hts hiX9 hown hK hP 0 rfl rfl 13 (by decide) (hts (.fieldLink RX9 38 "LedgeLeapsModel" "fewest" "[I") (List.mem_of_getElem? (i := 2) rfl)) (fun _ h9 => h9) rfl dX9_spread_11 ?_
        refine lv_iload_n hx hb dX9_spread_14 rfl (lv_at hl 0 rfl) ?_
        refine lv_iload_n hx hb dX9_spread_15 rfl (lv_at hl 0 rfl) ?_
        refine lv_iload_n hx hb dX9_spread_16 rfl (lv_at hl 1 rfl) ?_
        refine lv_icmp_ne (tgt := 24) hx hb dX9_spread_17 (by decide) (fun c_17 => ?_) (fun c_17 => ?_)
        · refine lv_iconst (v := (-1)) hx hb dX9_spread_24 (by decide) ?_
          refine va_iast hx hb hK hP hD hS 2 0 rfl rfl (vp_ix (e := i) (rfl) (by omega) (by decide)) dX9_spread_25 (fun H locs hP hD hS => ?_)
          rw [cl_ix (x := (nI i)) (e := i) (n := 100) (rfl) (by omega) (by decide)] at hP hD
          have hP : va_P D vwCl (oX9 mo zs zv vn zl zk zt vl vh zg zi zw (nI (nS S)) zo ze vc vr vt vo (bI vm) vp va vb vd vq zd vz :: aI cI zo 10000 go :: aI cI ze 100 (upd (spI ao ge i) i (-1)) :: X) H := hP
          have hD : va_D A (oX9 mo zs zv vn zl zk zt vl vh zg zi zw (nI (nS S)) zo ze vc vr vt vo (bI vm) vp va vb vd vq zd vz :: aI cI zo 10000 go :: aI cI ze 100 (upd (spI ao ge i) i (-1)) :: X) := hD
          refine lv_iinc (v := (nI (i + 1))) (lv' := [(3, .int (nI (i + 1))), (1, .int (nI ao)), (2, .int (nI ak)), (0, .ref mo)]) hx hb dX9_spread_26 hl (k := 0) rfl (nI_1 i) (by decide) rfl (fun ls hl => ?_)
          refine lv_goto (tgt := 2) hx hb dX9_spread_29 (by decide) ?_
          rw [spI_s ao ge i (if_neg (fun q => c_17 (by rw [q]))).symm] at hP hD
          exact ih_2 (i + 1) (by omega) (by omega) _ _ (hP) (hD) hS _ (lv_sub hl [0, 1, 2, 3] rfl)
        · refine lv_iconst (v := 0) hx hb dX9_spread_20 (by decide) ?_
          refine lv_goto (tgt := 25) hx hb dX9_spread_21 (by decide) ?_
          refine va_iast hx hb hK hP hD hS 2 0 rfl rfl (vp_ix (e := i) (rfl) (by omega) (by decide)) dX9_spread_25 (fun H locs hP hD hS => ?_)
          rw [cl_ix (x := (nI i)) (e := i) (n := 100) (rfl) (by omega) (by decide)] at hP hD
          have hP : va_P D vwCl (oX9 mo zs zv vn zl zk zt vl vh zg zi zw (nI (nS S)) zo ze vc vr vt vo (bI vm) vp va vb vd vq zd vz :: aI cI zo 10000 go :: aI cI ze 100 (upd (spI ao ge i) i 0) :: X) H := hP
          have hD : va_D A (oX9 mo zs zv vn zl zk zt vl vh zg zi zw (nI (nS S)) zo ze vc vr vt vo (bI vm) vp va vb vd vq zd vz :: aI cI zo 10000 go :: aI cI ze 100 (upd (spI ao ge i) i 0) :: X) := hD
          refine lv_iinc (v := (nI (i + 1))) (lv' := [(3, .int (nI (i + 1))), (1, .int (nI ao)), (2, .int (nI ak)), (0, .ref mo)]) hx hb dX9_spread_26 hl (k := 0) rfl (nI_1 i) (by decide) rfl (fun ls hl => ?_)
          refine lv_goto (tgt := 2) hx hb dX9_spread_29 (by decide) ?_
          rw [spI_s ao ge i (if_pos (nI_inj (by omega) (by omega) c_17)).symm] at hP hD
          exact ih_2 (i + 1) (by omega) (by omega) _ _ (hP) (hD) hS _ (lv_sub hl [0, 1, 2, 3] rfl)
  rw [← spI_0 ao ge] at hP hD
  exact loop_2 _ 0 (Nat.lt_succ_self _) (Nat.zero_le _) _ _ hP hD hS _ (lv_sub hl [0, 2, 3, 1] rfl)
