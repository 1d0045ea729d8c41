set_option maxHeartbeats 4000000 in
set_option maxRecDepth 100000 in
theorem n_isNext (l : Launch) (D : va_G) (cI cZ cW cJ : ClassId) (A : Nat → Prop) (X : va_W) (mo zs zv zl zk zt zg zi zw zo ze zd : Nat) (vn vh vg vc vr vt vo va vb vd vq : Int32) (vm : Bool) (vz : Int64) (tn p9 : Nat) (gt : Nat → Int32) (xlo xhi : Int32) (htn : tn ≤ 60) (hp9 : p9 ≤ tn + 1) : Met l yX9_isNext wsX9_isNext ({ frames := 1, cells := 0, slots := 0, locals := 22 }) (va_Pc [.ref mo, .int xlo, .int xhi] (wd D (tyL cI cZ cW cJ) A (oX9 mo zs zv vn zl zk zt (nI tn) vh zg zi zw vg zo ze vc vr vt vo (bI vm) (nI p9) va vb vd vq zd vz :: aI cI zt 60 gt :: X))) (va_Qi (fun (r : Int32) (u : Unit) => r = bI (isN gt tn p9 xlo xhi)) (fun (u : Unit) t => wq D A (oX9 mo zs zv vn zl zk zt (nI tn) vh zg zi zw vg zo ze vc vr vt vo (bI vm) (nI p9) va vb vd vq zd vz :: aI cI zt 60 gt :: X) t) A) 0 0 A := by
  refine Met.ofW (cc := cX9_isNext) (maxL := 3) (ret := (some .boolean)) (by decide) rfl ?_
  intro p e s m args below meth c s₁ B hml hv
  obtain ⟨rfl, hsz9, hP, hK, hD, hN⟩ := hv
  have hx := B.exec
  have hb := B.bytes
  have hr := B.returns
  have hts := atoms_spec (ws := wsX9_isNext) B.pre
  have hown : s.vm.findClass RX9 = some m.cls := findClass_of_methodNamed B.named
  have hlocks := B.notSynchronized
  have CF : CallFix p m c cX9_isNext 3 s _ wsX9_isNext RX9 := ⟨hx, hb, hml, hown, hts⟩
  have hA : ∀ q : Nat, s.heap.size ≤ q → A q := hsz9
  have hS : va_S A s.heap s.heap [] := va_S.rf
  have hiX9 : ∀ w ∈ u_ws RX9 TX9 26, w ∈ wsX9_isNext := fun _ h => List.mem_cons_of_mem _ (List.mem_append_right _ (h))
  have hl := lv_entry ([.ref mo, .int xlo, .int xhi]) (n := 3) (Nat.le_of_ble_eq_true rfl)
  rw [lg_entry_eq]
  generalize (lg_sl ([.ref mo, .int xlo, .int xhi]) ++ List.replicate (3 - (lg_sl ([.ref mo, .int xlo, .int xhi])).length) Slot.unset).toArray = ls at hl ⊢
  have hl : lv_has ls 3 [(0, .ref mo), (1, .int xlo), (2, .int xhi)] := hl
  show W p l e ({ frames := 1, cells := 0, slots := 0, locals := 22 } : Room) s m (([.ref mo, .int xlo, .int xhi] : List Value).toArray) below meth c s.heap [] 0 0 (MQ below (va_Qi (fun (r : Int32) (u : Unit) => r = bI (isN gt tn p9 xlo xhi)) (fun (u : Unit) t => wq D A (oX9 mo zs zv vn zl zk zt (nI tn) vh zg zi zw vg zo ze vc vr vt vo (bI vm) (nI p9) va vb vd vq zd vz :: aI cI zt 60 gt :: X) t) A) (([.ref mo, .int xlo, .int xhi] : List Value).toArray) s 0 0 A) (F0 m 0 ls [])
  refine lv_aload_n hx hb dX9_isNext_0 rfl (lv_at hl 0 rfl) ?_
  refine va_get (D := D) (ci := 9) (v := .int (nI p9)) (C := RX9) (T := TX9) (N := 26) hx hb hts hiX9 hown hK hP 0 rfl rfl 19 (by decide) (hts (.fieldLink RX9 146 "LedgeLeapsModel" "place" "I") (List.mem_of_getElem? (i := 1) rfl)) (fun _ h9 => h9) rfl dX9_isNext_1 ?_
  refine lv_aload_n hx hb dX9_isNext_4 rfl (lv_at hl 0 rfl) ?_
  refine va_get (D := D) (ci := 9) (v := .int (nI tn)) (C := RX9) (T := TX9) (N := 26) hx hb hts hiX9 hown hK hP 0 rfl rfl 6 (by decide) (hts (.fieldLink RX9 143 "LedgeLeapsModel" "length" "I") (List.mem_of_getElem? (i := 2) rfl)) (fun _ h9 => h9) rfl dX9_isNext_5 ?_
  refine lv_icmp_ge (tgt := 32) hx hb dX9_isNext_8 (by decide) (fun c_8 => ?_) (fun c_8 => ?_)
  · refine lv_iconst (v := 0) hx hb dX9_isNext_32 (by decide) ?_
    exact W.zret (v := 0) (ty := .boolean) hx hb hr (rfl) (fun t9 ht9 hW9 => ⟨⟨0, (), rfl, by unfold isN; rw [decide_eq_false (fun q => by have h := le_of_ge (a := tn) (b := p9) (by omega) (by omega) c_8; omega)]; rfl, by rw [ht9]; exact hP, hD⟩, hS.F ht9⟩) hS.2.2 dX9_isNext_33
  · have hpn : p9 < tn := lt_of_nge (a := tn) (b := p9) (by omega) (by omega) c_8
    refine lv_aload_n hx hb dX9_isNext_11 rfl (lv_at hl 0 rfl) ?_
    refine va_get (D := D) (ci := 9) (v := .ref zt) (C := RX9) (T := TX9) (N := 26) hx hb hts hiX9 hown hK hP 0 rfl rfl 5 (by decide) (hts (.fieldLink RX9 23 "LedgeLeapsModel" "text" "[I") (List.mem_of_getElem? (i := 3) rfl)) (fun _ h9 => h9) rfl dX9_isNext_12 ?_
    refine lv_aload_n hx hb dX9_isNext_15 rfl (lv_at hl 0 rfl) ?_
    refine va_get (D := D) (ci := 9) (v := .int (nI p9)) (C := RX9) (T := TX9) (N := 26) hx hb hts hiX9 hown hK hP 0 rfl rfl 19 (by decide) (hts (.fieldLink RX9 146 "LedgeLeapsModel" "place" "I") (List.mem_of_getElem? (i := 1) rfl)) (fun _ h9 => h9) rfl dX9_isNext_16 ?_
    refine va_iald hx hb hK hP 1 0 rfl rfl (vp_ix (e := p9) (rfl) (by omega) (by decide)) dX9_isNext_19 ?_
    refine top_i (y := (gt p9)) (ld_ix (f := gt) (x := (nI p9)) (e := p9) (n := 60) (rfl) (by omega) (by decide)) ?_
    refine lv_iload_n hx hb dX9_isNext_20 rfl (lv_at hl 1 rfl) ?_
    refine lv_iload_n hx hb dX9_isNext_21 rfl (lv_at hl 2 rfl) ?_
    refine cS_i CF hK hN hA hS (cut_of 2 [0, 1] hP hD rfl rfl rfl) (n_in l D cI cZ cW cJ A (oX9 mo zs zv vn zl zk zt (nI tn) vh zg zi zw vg zo ze vc vr vt vo (bI vm) (nI p9) va vb vd vq zd vz :: aI cI zt 60 gt :: X) (gt p9) xlo xhi) (va_cwS 3 hts gX9_isNext_X9_in rfl rfl rfl (by decide +kernel) ⟨Nat.le_of_ble_eq_true rfl, Nat.le_of_ble_eq_true rfl⟩) (As := [.int (gt p9), .int xlo, .int xhi]) (rest := []) rfl hl.1 rfl (Nat.le_of_ble_eq_true rfl) dX9_isNext_22 ⟨Nat.le_of_ble_eq_true rfl, Nat.le_of_ble_eq_true rfl⟩ (fun r_22 _ H locs hq hP hD hS => ?_)
    have hq : r_22 = bI (inX (gt p9) xlo xhi) := hq
    subst hq
    have hP : va_P D vwCl (oX9 mo zs zv vn zl zk zt (nI tn) vh zg zi zw vg zo ze vc vr vt vo (bI vm) (nI p9) va vb vd vq zd vz :: aI cI zt 60 gt :: X) H := pm_P hP 2 [0, 1] rfl
    have hD : va_D A (oX9 mo zs zv vn zl zk zt (nI tn) vh zg zi zw vg zo ze vc vr vt vo (bI vm) (nI p9) va vb vd vq zd vz :: aI cI zt 60 gt :: X) := pm_D hD 2 [0, 1] rfl rfl rfl
    refine lv_if_eq (tgt := 32) hx hb dX9_isNext_25 (by decide) (fun c_25 => ?_) (fun c_25 => ?_)
    · refine lv_iconst (v := 0) hx hb dX9_isNext_32 (by decide) ?_
      exact W.zret (v := 0) (ty := .boolean) hx hb hr (rfl) (fun t9 ht9 hW9 => ⟨⟨0, (), rfl, by unfold isN; rw [decide_eq_true hpn, bf_c c_25]; rfl, by rw [ht9]; exact hP, hD⟩, hS.F ht9⟩) hS.2.2 dX9_isNext_33
    · refine lv_iconst (v := 1) hx hb dX9_isNext_28 (by decide) ?_
      refine lv_goto (tgt := 33) hx hb dX9_isNext_29 (by decide) ?_
      exact W.zret (v := 1) (ty := .boolean) hx hb hr (rfl) (fun t9 ht9 hW9 => ⟨⟨1, (), rfl, by unfold isN; rw [decide_eq_true hpn, bt_c c_25]; rfl, by rw [ht9]; exact hP, hD⟩, hS.F ht9⟩) hS.2.2 dX9_isNext_33
set_option maxHeartbeats 4000000 in
set_option maxRecDepth 100000 in
theorem n_takes (l : Launch) (D : va_G) (cI cZ cW cJ : ClassId) (A : Nat → Prop) (X : va_W) (mo zs zv zl zk zt zg zi zw zo ze zd : Nat) (vn vh vg vc vr vt vo va vb vd vq : Int32) (vm : Bool) (vz : Int64) (tn p9 : Nat) (gt : Nat → Int32) (xc : Int32) (htn : tn ≤ 60) (hp9 : p9 ≤ tn + 1) : Met l yX9_takes wsX9_takes ({ frames := 2, cells := 0, slots := 0, locals := 44 }) (va_Pc [.ref mo, .int xc] (wd D (tyL cI cZ cW cJ) A (oX9 mo zs zv vn zl zk zt (nI tn) vh zg zi zw vg zo ze vc vr vt vo (bI vm) (nI p9) va vb vd vq zd vz :: aI cI zt 60 gt :: X))) (va_Qi (fun (r : Int32) (u : Nat) => r = bI (isN gt tn p9 xc xc) ∧ (isN gt tn p9 xc xc = true → u = p9 + 1 ∧ p9 < tn) ∧ (isN gt tn p9 xc xc = false → u = p9)) (fun (u : Nat) t => wq D A (oX9 mo zs zv vn zl zk zt (nI tn) vh zg zi zw vg zo ze vc vr vt vo (bI vm) (nI u) va vb vd vq zd vz :: aI cI zt 60 gt :: X) t) A) 0 0 A := by
  refine Met.ofW (cc := cX9_takes) (maxL := 3) (ret := (some .boolean)) (by decide) rfl ?_
  intro p e s m args below meth c s₁ B hml hv
  obtain ⟨rfl, hsz9, hP, hK, hD, hN⟩ := hv
  have hx := B.exec
  have hb := B.bytes
  have hr := B.returns
  have hts := atoms_spec (ws := wsX9_takes) B.pre
  have hown : s.vm.findClass RX9 = some m.cls := findClass_of_methodNamed B.named
  have hlocks := B.notSynchronized
  have CF : CallFix p m c cX9_takes 3 s _ wsX9_takes RX9 := ⟨hx, hb, hml, hown, hts⟩
  have hA : ∀ q : Nat, s.heap.size ≤ q → A q := hsz9
  have hS : va_S A s.heap s.heap [] := va_S.rf
  have hiX9 : ∀ w ∈ u_ws RX9 TX9 26, w ∈ wsX9_takes := fun _ h => List.mem_cons_of_mem _ (List.mem_append_right _ (h))
  have hl := lv_entry ([.ref mo, .int xc]) (n := 3) (Nat.le_of_ble_eq_true rfl)
  rw [lg_entry_eq]
  generalize (lg_sl ([.ref mo, .int xc]) ++ List.replicate (3 - (lg_sl ([.ref mo, .int xc])).length) Slot.unset).toArray = ls at hl ⊢
  have hl : lv_has ls 3 [(0, .ref mo), (1, .int xc)] := hl
  show W p l e ({ frames := 2, cells := 0, slots := 0, locals := 44 } : Room) s m (([.ref mo, .int xc] : List Value).toArray) below meth c s.heap [] 0 0 (MQ below (va_Qi (fun (r : Int32) (u : Nat) => r = bI (isN gt tn p9 xc xc) ∧ (isN gt tn p9 xc xc = true → u = p9 + 1 ∧ p9 < tn) ∧ (isN gt tn p9 xc xc = false → u = p9)) (fun (u : Nat) t => wq D A (oX9 mo zs zv vn zl zk zt (nI tn) vh zg zi zw vg zo ze vc vr vt vo (bI vm) (nI u) va vb vd vq zd vz :: aI cI zt 60 gt :: X) t) A) (([.ref mo, .int xc] : List Value).toArray) s 0 0 A) (F0 m 0 ls [])
  refine lv_aload_n hx hb dX9_takes_0 rfl (lv_at hl 0 rfl) ?_
  refine lv_iload_n hx hb dX9_takes_1 rfl (lv_at hl 1 rfl) ?_
  refine lv_iload_n hx hb dX9_takes_2 rfl (lv_at hl 1 rfl) ?_
  refine cV_i CF hK hN hA hS (cut_of 2 [0, 1] hP hD rfl rfl rfl) (n_isNext l D cI cZ cW cJ A (X) mo zs zv zl zk zt zg zi zw zo ze zd vn vh vg vc vr vt vo va vb vd vq vm vz tn p9 gt xc xc htn hp9) (cwV 2 hts gX9_takes_X9_isNext rfl rfl rfl (by decide +kernel) ⟨Nat.le_of_ble_eq_true rfl, Nat.le_of_ble_eq_true rfl⟩) (As := [.int xc, .int xc]) (rest := []) (ci := 9) (q0 := 0) rfl rfl rfl hl.1 rfl (Nat.le_of_ble_eq_true rfl) dX9_takes_3 ⟨Nat.le_of_ble_eq_true rfl, Nat.le_of_ble_eq_true rfl⟩ (fun r_3 _ H locs hq hP hD hS => ?_)
  have hq : r_3 = bI (isN gt tn p9 xc xc) := hq
  subst hq
  have hP : va_P D vwCl (oX9 mo zs zv vn zl zk zt (nI tn) vh zg zi zw vg zo ze vc vr vt vo (bI vm) (nI p9) va vb vd vq zd vz :: aI cI zt 60 gt :: X) H := pm_P hP 2 [0, 1] rfl
  have hD : va_D A (oX9 mo zs zv vn zl zk zt (nI tn) vh zg zi zw vg zo ze vc vr vt vo (bI vm) (nI p9) va vb vd vq zd vz :: aI cI zt 60 gt :: X) := pm_D hD 2 [0, 1] rfl rfl rfl
  refine lv_istore_n (lv' := [(2, .int (bI (isN gt tn p9 xc xc))), (0, .ref mo), (1, .int xc)]) hx hb dX9_takes_6 rfl hl (by decide) rfl (fun ls hl => ?_)
  refine lv_aload_n hx hb dX9_takes_7 rfl (lv_at hl 1 rfl) ?_
  refine lv_dup hx hb dX9_takes_8 rfl ?_
  refine va_get (D := D) (ci := 9) (v := .int (nI p9)) (C := RX9) (T := TX9) (N := 26) hx hb hts hiX9 hown hK hP 0 rfl rfl 19 (by decide) (hts (.fieldLink RX9 146 "LedgeLeapsModel" "place" "I") (List.mem_of_getElem? (i := 1) rfl)) (fun _ h9 => h9) rfl dX9_takes_9 ?_
  refine lv_iload_n hx hb dX9_takes_12 rfl (lv_at hl 0 rfl) ?_
  refine lv_if_eq (tgt := 20) hx hb dX9_takes_13 (by decide) (fun c_13 => ?_) (fun c_13 => ?_)
  · refine lv_iconst (v := 0) hx hb dX9_takes_20 (by decide) ?_
    refine lv_iadd hx hb dX9_takes_21 ?_
    refine top_i (y := (nI p9)) (Int32.add_zero _) ?_
    refine va_put (D := D) (ci := 9) (v := .int (nI p9)) (ty := .int) (C := RX9) (T := TX9) (N := 26) hx hb hts hiX9 tyX9 tyX9_ok nmX9 hown hK hP hD hS 0 rfl rfl 19 (by decide) (hts (.fieldLink RX9 146 "LedgeLeapsModel" "place" "I") (List.mem_of_getElem? (i := 1) rfl)) (fun _ h9 => h9) rfl (by decide +kernel) rfl rfl (Nat.le_of_ble_eq_true rfl) dX9_takes_22 (fun H locs hP hD hS => ?_)
    have hP : va_P D vwCl (oX9 mo zs zv vn zl zk zt (nI tn) vh zg zi zw vg zo ze vc vr vt vo (bI vm) (nI p9) va vb vd vq zd vz :: aI cI zt 60 gt :: X) H := hP
    have hD : va_D A (oX9 mo zs zv vn zl zk zt (nI tn) vh zg zi zw vg zo ze vc vr vt vo (bI vm) (nI p9) va vb vd vq zd vz :: aI cI zt 60 gt :: X) := hD
    refine lv_iload_n hx hb dX9_takes_25 rfl (lv_at hl 0 rfl) ?_
    exact W.zret (v := (bI (isN gt tn p9 xc xc))) (ty := .boolean) hx hb hr (bI_n _) (fun t9 ht9 hW9 => ⟨⟨(bI (isN gt tn p9 xc xc)), p9, rfl, ⟨rfl, fun q => absurd q (by rw [bf_c c_13]; decide), fun _ => rfl⟩, by rw [ht9]; exact hP, hD⟩, hS.F ht9⟩) hS.2.2 dX9_takes_26
  · refine lv_iconst (v := 1) hx hb dX9_takes_16 (by decide) ?_
    refine lv_goto (tgt := 21) hx hb dX9_takes_17 (by decide) ?_
    refine lv_iadd hx hb dX9_takes_21 ?_
    refine top_i (y := (nI (p9 + 1))) (nI_1 p9) ?_
    refine va_put (D := D) (ci := 9) (v := .int (nI (p9 + 1))) (ty := .int) (C := RX9) (T := TX9) (N := 26) hx hb hts hiX9 tyX9 tyX9_ok nmX9 hown hK hP hD hS 0 rfl rfl 19 (by decide) (hts (.fieldLink RX9 146 "LedgeLeapsModel" "place" "I") (List.mem_of_getElem? (i := 1) rfl)) (fun _ h9 => h9) rfl (by decide +kernel) rfl rfl (Nat.le_of_ble_eq_true rfl) dX9_takes_22 (fun H locs hP hD hS => ?_)
    have hP : va_P D vwCl (oX9 mo zs zv vn zl zk zt (nI tn) vh zg zi zw vg zo ze vc vr vt vo (bI vm) (nI (p9 + 1)) va vb vd vq zd vz :: aI cI zt 60 gt :: X) H := hP
    have hD : va_D A (oX9 mo zs zv vn zl zk zt (nI tn) vh zg zi zw vg zo ze vc vr vt vo (bI vm) (nI (p9 + 1)) va vb vd vq zd vz :: aI cI zt 60 gt :: X) := hD
    refine lv_iload_n hx hb dX9_takes_25 rfl (lv_at hl 0 rfl) ?_
    exact W.zret (v := (bI (isN gt tn p9 xc xc))) (ty := .boolean) hx hb hr (bI_n _) (fun t9 ht9 hW9 => ⟨⟨(bI (isN gt tn p9 xc xc)), p9 + 1, rfl, ⟨rfl, fun q => ⟨rfl, (isN_t q).1⟩, fun q => absurd (bt_c c_13) (by rw [q]; decide)⟩, by rw [ht9]; exact hP, hD⟩, hS.F ht9⟩) hS.2.2 dX9_takes_26
set_option maxHeartbeats 4000000 in
set_option maxRecDepth 100000 in
theorem n_readColumn (l : Launch) (D : va_G) (cI cZ cW cJ : ClassId) (A : Nat → Prop) (X : va_W) (mo zs zv zl zk zt zg zi zw zo ze zd : Nat) (vn vh vg vc vr vt vo va vb vd vq : Int32) (vm : Bool) (vz : Int64) (tn p9 : Nat) (gt : Nat → Int32) (htn : tn ≤ 60) (hp9 : p9 ≤ tn + 1) : Met l yX9_readColumn wsX9_readColumn ({ frames := 2, cells := 0, slots := 0, locals := 44 }) (va_Pc [.ref mo] (wd D (tyL cI cZ cW cJ) A (oX9 mo zs zv vn zl zk zt (nI tn) vh zg zi zw vg zo ze vc vr vt vo (bI vm) (nI p9) va vb vd vq zd vz :: aI cI zt 60 gt :: X))) (va_Qi (fun (r : Int32) (u : Int32 × Nat) => r = bI (mCol gt tn p9).1 ∧ u.2 = (mCol gt tn p9).2.2 ∧ ((mCol gt tn p9).1 = true → u.1 = (mCol gt tn p9).2.1)) (fun (u : Int32 × Nat) t => wq D A (oX9 mo zs zv vn zl zk zt (nI tn) vh zg zi zw vg zo ze vc vr vt vo (bI vm) (nI u.2) va u.1 vd vq zd vz :: aI cI zt 60 gt :: X) t) A) 0 0 A := by
  refine Met.ofW (cc := cX9_readColumn) (maxL := 1) (ret := (some .boolean)) (by decide) rfl ?_
  intro p e s m args below meth c s₁ B hml hv
  obtain ⟨rfl, hsz9, hP, hK, hD, hN⟩ := hv
  have hx := B.exec
  have hb := B.bytes
  have hr := B.returns
  have hts := atoms_spec (ws := wsX9_readColumn) B.pre
  have hown : s.vm.findClass RX9 = some m.cls := findClass_of_methodNamed B.named
  have hlocks := B.notSynchronized
  have CF : CallFix p m c cX9_readColumn 1 s _ wsX9_readColumn RX9 := ⟨hx, hb, hml, hown, hts⟩
  have hA : ∀ q : Nat, s.heap.size ≤ q → A q := hsz9
  have hS : va_S A s.heap s.heap [] := va_S.rf
  have hiX9 : ∀ w ∈ u_ws RX9 TX9 26, w ∈ wsX9_readColumn := fun _ h => List.mem_cons_of_mem _ (List.mem_append_right _ (h))
  have hl := lv_entry ([.ref mo]) (n := 1) (Nat.le_of_ble_eq_true rfl)
  rw [lg_entry_eq]
  generalize (lg_sl ([.ref mo]) ++ List.replicate (1 - (lg_sl ([.ref mo])).length) Slot.unset).toArray = ls at hl ⊢
  have hl : lv_has ls 1 [(0, .ref mo)] := hl
  show W p l e ({ frames := 2, cells := 0, slots := 0, locals := 44 } : Room) s m (([.ref mo] : List Value).toArray) below meth c s.heap [] 0 0 (MQ below (va_Qi (fun (r : Int32) (u : Int32 × Nat) => r = bI (mCol gt tn p9).1 ∧ u.2 = (mCol gt tn p9).2.2 ∧ ((mCol gt tn p9).1 = true → u.1 = (mCol gt tn p9).2.1)) (fun (u : Int32 × Nat) t => wq D A (oX9 mo zs zv vn zl zk zt (nI tn) vh zg zi zw vg zo ze vc vr vt vo (bI vm) (nI u.2) va u.1 vd vq zd vz :: aI cI zt 60 gt :: X) t) A) (([.ref mo] : List Value).toArray) s 0 0 A) (F0 m 0 ls [])
  refine lv_aload_n hx hb dX9_readColumn_0 rfl (lv_at hl 0 rfl) ?_
  refine lv_bipush (v := 48) hx hb dX9_readColumn_1 (by decide) ?_
  refine lv_bipush (v := 57) hx hb dX9_readColumn_3 (by decide) ?_
  refine cV_i CF hK hN hA hS (cut_of 2 [0, 1] hP hD rfl rfl rfl) (n_isNext l D cI cZ cW cJ A (X) mo zs zv zl zk zt zg zi zw zo ze zd vn vh vg vc vr vt vo va vb vd vq vm vz tn p9 gt 48 57 htn hp9) (cwV 2 hts gX9_readColumn_X9_isNext rfl rfl rfl (by decide +kernel) ⟨Nat.le_of_ble_eq_true rfl, Nat.le_of_ble_eq_true rfl⟩) (As := [.int 48, .int 57]) (rest := []) (ci := 9) (q0 := 0) rfl rfl rfl hl.1 rfl (Nat.le_of_ble_eq_true rfl) dX9_readColumn_5 ⟨Nat.le_of_ble_eq_true rfl, Nat.le_of_ble_eq_true rfl⟩ (fun r_5 _ H locs hq hP hD hS => ?_)
  have hq : r_5 = bI (isN gt tn p9 48 57) := hq
  subst hq
  have hP : va_P D vwCl (oX9 mo zs zv vn zl zk zt (nI tn) vh zg zi zw vg zo ze vc vr vt vo (bI vm) (nI p9) va vb vd vq zd vz :: aI cI zt 60 gt :: X) H := pm_P hP 2 [0, 1] rfl
  have hD : va_D A (oX9 mo zs zv vn zl zk zt (nI tn) vh zg zi zw vg zo ze vc vr vt vo (bI vm) (nI p9) va vb vd vq zd vz :: aI cI zt 60 gt :: X) := pm_D hD 2 [0, 1] rfl rfl rfl
  refine lv_if_ne (tgt := 13) hx hb dX9_readColumn_8 (by decide) (fun c_8 => ?_) (fun c_8 => ?_)
  · have hpn := (isN_t (bt_c c_8)).1
    refine lv_aload_n hx hb dX9_readColumn_13 rfl (lv_at hl 0 rfl) ?_
    refine lv_aload_n hx hb dX9_readColumn_14 rfl (lv_at hl 0 rfl) ?_
    refine va_get (D := D) (ci := 9) (v := .ref zt) (C := RX9) (T := TX9) (N := 26) hx hb hts hiX9 hown hK hP 0 rfl rfl 5 (by decide) (hts (.fieldLink RX9 23 "LedgeLeapsModel" "text" "[I") (List.mem_of_getElem? (i := 1) rfl)) (fun _ h9 => h9) rfl dX9_readColumn_15 ?_
    refine lv_aload_n hx hb dX9_readColumn_18 rfl (lv_at hl 0 rfl) ?_
    refine va_get (D := D) (ci := 9) (v := .int (nI p9)) (C := RX9) (T := TX9) (N := 26) hx hb hts hiX9 hown hK hP 0 rfl rfl 19 (by decide) (hts (.fieldLink RX9 146 "LedgeLeapsModel" "place" "I") (List.mem_of_getElem? (i := 2) rfl)) (fun _ h9 => h9) rfl dX9_readColumn_19 ?_
    refine va_iald hx hb hK hP 1 0 rfl rfl (vp_ix (e := p9) (rfl) (by omega) (by decide)) dX9_readColumn_22 ?_
    refine top_i (y := (gt p9)) (ld_ix (f := gt) (x := (nI p9)) (e := p9) (n := 60) (rfl) (by omega) (by decide)) ?_
    refine lv_bipush (v := 48) hx hb dX9_readColumn_23 (by decide) ?_
    refine lv_isub hx hb dX9_readColumn_25 ?_
    refine va_put (D := D) (ci := 9) (v := .int ((gt p9) - 48)) (ty := .int) (C := RX9) (T := TX9) (N := 26) hx hb hts hiX9 tyX9 tyX9_ok nmX9 hown hK hP hD hS 0 rfl rfl 21 (by decide) (hts (.fieldLink RX9 152 "LedgeLeapsModel" "one" "I") (List.mem_of_getElem? (i := 3) rfl)) (fun _ h9 => h9) rfl (by decide +kernel) rfl rfl (Nat.le_of_ble_eq_true rfl) dX9_readColumn_26 (fun H locs hP hD hS => ?_)
    have hP : va_P D vwCl (oX9 mo zs zv vn zl zk zt (nI tn) vh zg zi zw vg zo ze vc vr vt vo (bI vm) (nI p9) va ((gt p9) - 48) vd vq zd vz :: aI cI zt 60 gt :: X) H := hP
    have hD : va_D A (oX9 mo zs zv vn zl zk zt (nI tn) vh zg zi zw vg zo ze vc vr vt vo (bI vm) (nI p9) va ((gt p9) - 48) vd vq zd vz :: aI cI zt 60 gt :: X) := hD
    refine lv_aload_n hx hb dX9_readColumn_29 rfl (lv_at hl 0 rfl) ?_
    refine lv_dup hx hb dX9_readColumn_30 rfl ?_
    refine va_get (D := D) (ci := 9) (v := .int (nI p9)) (C := RX9) (T := TX9) (N := 26) hx hb hts hiX9 hown hK hP 0 rfl rfl 19 (by decide) (hts (.fieldLink RX9 146 "LedgeLeapsModel" "place" "I") (List.mem_of_getElem? (i := 2) rfl)) (fun _ h9 => h9) rfl dX9_readColumn_31 ?_
    refine lv_iconst (v := 1) hx hb dX9_readColumn_34 (by decide) ?_
    refine lv_iadd hx hb dX9_readColumn_35 ?_
    refine top_i (y := (nI (p9 + 1))) (nI_1 p9) ?_
    refine va_put (D := D) (ci := 9) (v := .int (nI (p9 + 1))) (ty := .int) (C := RX9) (T := TX9) (N := 26) hx hb hts hiX9 tyX9 tyX9_ok nmX9 hown hK hP hD hS 0 rfl rfl 19 (by decide) (hts (.fieldLink RX9 146 "LedgeLeapsModel" "place" "I") (List.mem_of_getElem? (i := 2) rfl)) (fun _ h9 => h9) rfl (by decide +kernel) rfl rfl (Nat.le_of_ble_eq_true rfl) dX9_readColumn_36 (fun H locs hP hD hS => ?_)
    have hP : va_P D vwCl (oX9 mo zs zv vn zl zk zt (nI tn) vh zg zi zw vg zo ze vc vr vt vo (bI vm) (nI (p9 + 1)) va ((gt p9) - 48) vd vq zd vz :: aI cI zt 60 gt :: X) H := hP
    have hD : va_D A (oX9 mo zs zv vn zl zk zt (nI tn) vh zg zi zw vg zo ze vc vr vt vo (bI vm) (nI (p9 + 1)) va ((gt p9) - 48) vd vq zd vz :: aI cI zt 60 gt :: X) := hD
    refine lv_aload_n hx hb dX9_readColumn_39 rfl (lv_at hl 0 rfl) ?_
    refine va_get (D := D) (ci := 9) (v := .int ((gt p9) - 48)) (C := RX9) (T := TX9) (N := 26) hx hb hts hiX9 hown hK hP 0 rfl rfl 21 (by decide) (hts (.fieldLink RX9 152 "LedgeLeapsModel" "one" "I") (List.mem_of_getElem? (i := 3) rfl)) (fun _ h9 => h9) rfl dX9_readColumn_40 ?_
    refine lv_iconst (v := 1) hx hb dX9_readColumn_43 (by decide) ?_
    refine lv_icmp_ne (tgt := 87) hx hb dX9_readColumn_44 (by decide) (fun c_44 => ?_) (fun c_44 => ?_)
    · refine lv_iconst (v := 1) hx hb dX9_readColumn_87 (by decide) ?_
      exact W.zret (v := 1) (ty := .boolean) hx hb hr (rfl) (fun t9 ht9 hW9 => ⟨⟨1, (gt p9 - 48, p9 + 1), rfl, by unfold mCol; rw [if_pos (bt_c c_8), if_neg (fun q => c_44 q.1)]; exact ⟨rfl, rfl, fun _ => rfl⟩, by rw [ht9]; exact hP, hD⟩, hS.F ht9⟩) hS.2.2 dX9_readColumn_88
    · refine lv_aload_n hx hb dX9_readColumn_47 rfl (lv_at hl 0 rfl) ?_
      refine lv_bipush (v := 48) hx hb dX9_readColumn_48 (by decide) ?_
      refine lv_bipush (v := 57) hx hb dX9_readColumn_50 (by decide) ?_
      refine cV_i CF hK hN hA hS (cut_of 2 [0, 1] hP hD rfl rfl rfl) (n_isNext l D cI cZ cW cJ A (X) mo zs zv zl zk zt zg zi zw zo ze zd vn vh vg vc vr vt vo va ((gt p9) - 48) vd vq vm vz tn (p9 + 1) gt 48 57 htn (by omega)) (cwV 2 hts gX9_readColumn_X9_isNext rfl rfl rfl (by decide +kernel) ⟨Nat.le_of_ble_eq_true rfl, Nat.le_of_ble_eq_true rfl⟩) (As := [.int 48, .int 57]) (rest := []) (ci := 9) (q0 := 0) rfl rfl rfl hl.1 rfl (Nat.le_of_ble_eq_true rfl) dX9_readColumn_52 ⟨Nat.le_of_ble_eq_true rfl, Nat.le_of_ble_eq_true rfl⟩ (fun r_52 _ H locs hq hP hD hS => ?_)
      have hq : r_52 = bI (isN gt tn (p9 + 1) 48 57) := hq
      subst hq
      have hP : va_P D vwCl (oX9 mo zs zv vn zl zk zt (nI tn) vh zg zi zw vg zo ze vc vr vt vo (bI vm) (nI (p9 + 1)) va ((gt p9) - 48) vd vq zd vz :: aI cI zt 60 gt :: X) H := pm_P hP 2 [0, 1] rfl
      have hD : va_D A (oX9 mo zs zv vn zl zk zt (nI tn) vh zg zi zw vg zo ze vc vr vt vo (bI vm) (nI (p9 + 1)) va ((gt p9) - 48) vd vq zd vz :: aI cI zt 60 gt :: X) := pm_D hD 2 [0, 1] rfl rfl rfl
      refine lv_if_eq (tgt := 87) hx hb dX9_readColumn_55 (by decide) (fun c_55 => ?_) (fun c_55 => ?_)
      · refine lv_iconst (v := 1) hx hb dX9_readColumn_87 (by decide) ?_
        exact W.zret (v := 1) (ty := .boolean) hx hb hr (rfl) (fun t9 ht9 hW9 => ⟨⟨1, (gt p9 - 48, p9 + 1), rfl, by unfold mCol; rw [if_pos (bt_c c_8), if_neg (fun q => (fun z => by rw [bf_c c_55] at z; cases z) q.2)]; exact ⟨rfl, rfl, fun _ => rfl⟩, by rw [ht9]; exact hP, hD⟩, hS.F ht9⟩) hS.2.2 dX9_readColumn_88
      · have hpn2 := (isN_t (bt_c c_55)).1
        refine lv_aload_n hx hb dX9_readColumn_58 rfl (lv_at hl 0 rfl) ?_
        refine lv_bipush (v := 10) hx hb dX9_readColumn_59 (by decide) ?_
        refine lv_aload_n hx hb dX9_readColumn_61 rfl (lv_at hl 0 rfl) ?_
        refine va_get (D := D) (ci := 9) (v := .ref zt) (C := RX9) (T := TX9) (N := 26) hx hb hts hiX9 hown hK hP 0 rfl rfl 5 (by decide) (hts (.fieldLink RX9 23 "LedgeLeapsModel" "text" "[I") (List.mem_of_getElem? (i := 1) rfl)) (fun _ h9 => h9) rfl dX9_readColumn_62 ?_
        refine lv_aload_n hx hb dX9_readColumn_65 rfl (lv_at hl 0 rfl) ?_
        refine va_get (D := D) (ci := 9) (v := .int (nI (p9 + 1))) (C := RX9) (T := TX9) (N := 26) hx hb hts hiX9 hown hK hP 0 rfl rfl 19 (by decide) (hts (.fieldLink RX9 146 "LedgeLeapsModel" "place" "I") (List.mem_of_getElem? (i := 2) rfl)) (fun _ h9 => h9) rfl dX9_readColumn_66 ?_
        refine va_iald hx hb hK hP 1 0 rfl rfl (vp_ix (e := (p9 + 1)) (rfl) (by omega) (by decide)) dX9_readColumn_69 ?_
        refine top_i (y := (gt (p9 + 1))) (ld_ix (f := gt) (x := (nI (p9 + 1))) (e := (p9 + 1)) (n := 60) (rfl) (by omega) (by decide)) ?_
        refine lv_iadd hx hb dX9_readColumn_70 ?_
        refine lv_bipush (v := 48) hx hb dX9_readColumn_71 (by decide) ?_
        refine lv_isub hx hb dX9_readColumn_73 ?_
        refine va_put (D := D) (ci := 9) (v := .int ((10 + (gt (p9 + 1))) - 48)) (ty := .int) (C := RX9) (T := TX9) (N := 26) hx hb hts hiX9 tyX9 tyX9_ok nmX9 hown hK hP hD hS 0 rfl rfl 21 (by decide) (hts (.fieldLink RX9 152 "LedgeLeapsModel" "one" "I") (List.mem_of_getElem? (i := 3) rfl)) (fun _ h9 => h9) rfl (by decide +kernel) rfl rfl (Nat.le_of_ble_eq_true rfl) dX9_readColumn_74 (fun H locs hP hD hS => ?_)
        have hP : va_P D vwCl (oX9 mo zs zv vn zl zk zt (nI tn) vh zg zi zw vg zo ze vc vr vt vo (bI vm) (nI (p9 + 1)) va ((10 + (gt (p9 + 1))) - 48) vd vq zd vz :: aI cI zt 60 gt :: X) H := hP
        have hD : va_D A (oX9 mo zs zv vn zl zk zt (nI tn) vh zg zi zw vg zo ze vc vr vt vo (bI vm) (nI (p9 + 1)) va ((10 + (gt (p9 + 1))) - 48) vd vq zd vz :: aI cI zt 60 gt :: X) := hD
        refine lv_aload_n hx hb dX9_readColumn_77 rfl (lv_at hl 0 rfl) ?_
        refine lv_dup hx hb dX9_readColumn_78 rfl ?_
        refine va_get (D := D) (ci := 9) (v := .int (nI (p9 + 1))) (C := RX9) (T := TX9) (N := 26) hx hb hts hiX9 hown hK hP 0 rfl rfl 19 (by decide) (hts (.fieldLink RX9 146 "LedgeLeapsModel" "place" "I") (List.mem_of_getElem? (i := 2) rfl)) (fun _ h9 => h9) rfl dX9_readColumn_79 ?_
        refine lv_iconst (v := 1) hx hb dX9_readColumn_82 (by decide) ?_
        refine lv_iadd hx hb dX9_readColumn_83 ?_
        refine top_i (y := (nI (p9 + 2))) (nI_1 (p9 + 1)) ?_
        refine va_put (D := D) (ci := 9) (v := .int (nI (p9 + 2))) (ty := .int) (C := RX9) (T := TX9) (N := 26) hx hb hts hiX9 tyX9 tyX9_ok nmX9 hown hK hP hD hS 0 rfl rfl 19 (by decide) (hts (.fieldLink RX9 146 "LedgeLeapsModel" "place" "I") (List.mem_of_getElem? (i := 2) rfl)) (fun _ h9 => h9) rfl (by decide +kernel) rfl rfl (Nat.le_of_ble_eq_true rfl) dX9_readColumn_84 (fun H locs hP hD hS => ?_)
        have hP : va_P D vwCl (oX9 mo zs zv vn zl zk zt (nI tn) vh zg zi zw vg zo ze vc vr vt vo (bI vm) (nI (p9 + 2)) va ((10 + (gt (p9 + 1))) - 48) vd vq zd vz :: aI cI zt 60 gt :: X) H := hP
        have hD : va_D A (oX9 mo zs zv vn zl zk zt (nI tn) vh zg zi zw vg zo ze vc vr vt vo (bI vm) (nI (p9 + 2)) va ((10 + (gt (p9 + 1))) - 48) vd vq zd vz :: aI cI zt 60 gt :: X) := hD
        refine lv_iconst (v := 1) hx hb dX9_readColumn_87 (by decide) ?_
        exact W.zret (v := 1) (ty := .boolean) hx hb hr (rfl) (fun t9 ht9 hW9 => ⟨⟨1, (10 + gt (p9 + 1) - 48, p9 + 2), rfl, by unfold mCol; rw [if_pos (bt_c c_8), if_pos ⟨c_44, bt_c c_55⟩]; exact ⟨rfl, rfl, fun _ => rfl⟩, by rw [ht9]; exact hP, hD⟩, hS.F ht9⟩) hS.2.2 dX9_readColumn_88
  · refine lv_iconst (v := 0) hx hb dX9_readColumn_11 (by decide) ?_
    exact W.zret (v := 0) (ty := .boolean) hx hb hr (rfl) (fun t9 ht9 hW9 => ⟨⟨0, (vb, p9), rfl, by unfold mCol; rw [if_neg (by rw [bf_c c_8]; decide)]; exact ⟨rfl, rfl, fun q => by cases q⟩, by rw [ht9]; exact hP, hD⟩, hS.F ht9⟩) hS.2.2 dX9_readColumn_12
set_option maxHeartbeats 4000000 in
set_option maxRecDepth 100000 in
theorem n_readDigit (l : Launch) (D : va_G) (cI cZ cW cJ : ClassId) (A : Nat → Prop) (X : va_W) (mo zs zv zl zk zt zg zi zw zo ze zd : Nat) (vn vh vg vc vr vt vo va vb vd vq : Int32) (vm : Bool) (vz : Int64) (tn p9 : Nat) (gt : Nat → Int32) (xm : Int32) (htn : tn ≤ 60) (hp9 : p9 ≤ tn + 1) : Met l yX9_readDigit wsX9_readDigit ({ frames := 2, cells := 0, slots := 0, locals := 44 }) (va_Pc [.ref mo, .int xm] (wd D (tyL cI cZ cW cJ) A (oX9 mo zs zv vn zl zk zt (nI tn) vh zg zi zw vg zo ze vc vr vt vo (bI vm) (nI p9) va vb vd vq zd vz :: aI cI zt 60 gt :: X))) (va_Qi (fun (r : Int32) (u : Int32 × Nat) => r = bI (isN gt tn p9 48 (48 + xm)) ∧ ((isN gt tn p9 48 (48 + xm)) = true → u.1 = gt p9 - 48 ∧ u.2 = p9 + 1) ∧ ((isN gt tn p9 48 (48 + xm)) = false → u.2 = p9)) (fun (u : Int32 × Nat) t => wq D A (oX9 mo zs zv vn zl zk zt (nI tn) vh zg zi zw vg zo ze vc vr vt vo (bI vm) (nI u.2) va vb u.1 vq zd vz :: aI cI zt 60 gt :: X) t) A) 0 0 A := by
  refine Met.ofW (cc := cX9_readDigit) (maxL := 2) (ret := (some .boolean)) (by decide) rfl ?_
  intro p e s m args below meth c s₁ B hml hv
  obtain ⟨rfl, hsz9, hP, hK, hD, hN⟩ := hv
  have hx := B.exec
  have hb := B.bytes
  have hr := B.returns
  have hts := atoms_spec (ws := wsX9_readDigit) B.pre
  have hown : s.vm.findClass RX9 = some m.cls := findClass_of_methodNamed B.named
  have hlocks := B.notSynchronized
  have CF : CallFix p m c cX9_readDigit 2 s _ wsX9_readDigit RX9 := ⟨hx, hb, hml, hown, hts⟩
  have hA : ∀ q : Nat, s.heap.size ≤ q → A q := hsz9
  have hS : va_S A s.heap s.heap [] := va_S.rf
  have hiX9 : ∀ w ∈ u_ws RX9 TX9 26, w ∈ wsX9_readDigit := fun _ h => List.mem_cons_of_mem _ (List.mem_append_right _ (h))
  have hl := lv_entry ([.ref mo, .int xm]) (n := 2) (Nat.le_of_ble_eq_true rfl)
  rw [lg_entry_eq]
  generalize (lg_sl ([.ref mo, .int xm]) ++ List.replicate (2 - (lg_sl ([.ref mo, .int xm])).length) Slot.unset).toArray = ls at hl ⊢
  have hl : lv_has ls 2 [(0, .ref mo), (1, .int xm)] := hl
  show W p l e ({ frames := 2, cells := 0, slots := 0, locals := 44 } : Room) s m (([.ref mo, .int xm] : List Value).toArray) below meth c s.heap [] 0 0 (MQ below (va_Qi (fun (r : Int32) (u : Int32 × Nat) => r = bI (isN gt tn p9 48 (48 + xm)) ∧ ((isN gt tn p9 48 (48 + xm)) = true → u.1 = gt p9 - 48 ∧ u.2 = p9 + 1) ∧ ((isN gt tn p9 48 (48 + xm)) = false → u.2 = p9)) (fun (u : Int32 × Nat) t => wq D A (oX9 mo zs zv vn zl zk zt (nI tn) vh zg zi zw vg zo ze vc vr vt vo (bI vm) (nI u.2) va vb u.1 vq zd vz :: aI cI zt 60 gt :: X) t) A) (([.ref mo, .int xm] : List Value).toArray) s 0 0 A) (F0 m 0 ls [])
  refine lv_aload_n hx hb dX9_readDigit_0 rfl (lv_at hl 0 rfl) ?_
  refine lv_bipush (v := 48) hx hb dX9_readDigit_1 (by decide) ?_
  refine lv_bipush (v := 48) hx hb dX9_readDigit_3 (by decide) ?_
  refine lv_iload_n hx hb dX9_readDigit_5 rfl (lv_at hl 1 rfl) ?_
  refine lv_iadd hx hb dX9_readDigit_6 ?_
  refine cV_i CF hK hN hA hS (cut_of 2 [0, 1] hP hD rfl rfl rfl) (n_isNext l D cI cZ cW cJ A (X) mo zs zv zl zk zt zg zi zw zo ze zd vn vh vg vc vr vt vo va vb vd vq vm vz tn p9 gt 48 (48 + xm) htn hp9) (cwV 2 hts gX9_readDigit_X9_isNext rfl rfl rfl (by decide +kernel) ⟨Nat.le_of_ble_eq_true rfl, Nat.le_of_ble_eq_true rfl⟩) (As := [.int 48, .int (48 + xm)]) (rest := []) (ci := 9) (q0 := 0) rfl rfl rfl hl.1 rfl (Nat.le_of_ble_eq_true rfl) dX9_readDigit_7 ⟨Nat.le_of_ble_eq_true rfl, Nat.le_of_ble_eq_true rfl⟩ (fun r_7 _ H locs hq hP hD hS => ?_)
  have hq : r_7 = bI (isN gt tn p9 48 (48 + xm)) := hq
  subst hq
  have hP : va_P D vwCl (oX9 mo zs zv vn zl zk zt (nI tn) vh zg zi zw vg zo ze vc vr vt vo (bI vm) (nI p9) va vb vd vq zd vz :: aI cI zt 60 gt :: X) H := pm_P hP 2 [0, 1] rfl
  have hD : va_D A (oX9 mo zs zv vn zl zk zt (nI tn) vh zg zi zw vg zo ze vc vr vt vo (bI vm) (nI p9) va vb vd vq zd vz :: aI cI zt 60 gt :: X) := pm_D hD 2 [0, 1] rfl rfl rfl
  refine lv_if_ne (tgt := 15) hx hb dX9_readDigit_10 (by decide) (fun c_10 => ?_) (fun c_10 => ?_)
  · have hpn := (isN_t (bt_c c_10)).1
    refine lv_aload_n hx hb dX9_readDigit_15 rfl (lv_at hl 0 rfl) ?_
    refine lv_aload_n hx hb dX9_readDigit_16 rfl (lv_at hl 0 rfl) ?_
    refine va_get (D := D) (ci := 9) (v := .ref zt) (C := RX9) (T := TX9) (N := 26) hx hb hts hiX9 hown hK hP 0 rfl rfl 5 (by decide) (hts (.fieldLink RX9 23 "LedgeLeapsModel" "text" "[I") (List.mem_of_getElem? (i := 1) rfl)) (fun _ h9 => h9) rfl dX9_readDigit_17 ?_
    refine lv_aload_n hx hb dX9_readDigit_20 rfl (lv_at hl 0 rfl) ?_
    refine va_get (D := D) (ci := 9) (v := .int (nI p9)) (C := RX9) (T := TX9) (N := 26) hx hb hts hiX9 hown hK hP 0 rfl rfl 19 (by decide) (hts (.fieldLink RX9 146 "LedgeLeapsModel" "place" "I") (List.mem_of_getElem? (i := 2) rfl)) (fun _ h9 => h9) rfl dX9_readDigit_21 ?_
    refine va_iald hx hb hK hP 1 0 rfl rfl (vp_ix (e := p9) (rfl) (by omega) (by decide)) dX9_readDigit_24 ?_
    refine top_i (y := (gt p9)) (ld_ix (f := gt) (x := (nI p9)) (e := p9) (n := 60) (rfl) (by omega) (by decide)) ?_
    refine lv_bipush (v := 48) hx hb dX9_readDigit_25 (by decide) ?_
    refine lv_isub hx hb dX9_readDigit_27 ?_
    refine va_put (D := D) (ci := 9) (v := .int ((gt p9) - 48)) (ty := .int) (C := RX9) (T := TX9) (N := 26) hx hb hts hiX9 tyX9 tyX9_ok nmX9 hown hK hP hD hS 0 rfl rfl 22 (by decide) (hts (.fieldLink RX9 155 "LedgeLeapsModel" "other" "I") (List.mem_of_getElem? (i := 3) rfl)) (fun _ h9 => h9) rfl (by decide +kernel) rfl rfl (Nat.le_of_ble_eq_true rfl) dX9_readDigit_28 (fun H locs hP hD hS => ?_)
    have hP : va_P D vwCl (oX9 mo zs zv vn zl zk zt (nI tn) vh zg zi zw vg zo ze vc vr vt vo (bI vm) (nI p9) va vb ((gt p9) - 48) vq zd vz :: aI cI zt 60 gt :: X) H := hP
    have hD : va_D A (oX9 mo zs zv vn zl zk zt (nI tn) vh zg zi zw vg zo ze vc vr vt vo (bI vm) (nI p9) va vb ((gt p9) - 48) vq zd vz :: aI cI zt 60 gt :: X) := hD
    refine lv_aload_n hx hb dX9_readDigit_31 rfl (lv_at hl 0 rfl) ?_
    refine lv_dup hx hb dX9_readDigit_32 rfl ?_
    refine va_get (D := D) (ci := 9) (v := .int (nI p9)) (C := RX9) (T := TX9) (N := 26) hx hb hts hiX9 hown hK hP 0 rfl rfl 19 (by decide) (hts (.fieldLink RX9 146 "LedgeLeapsModel" "place" "I") (List.mem_of_getElem? (i := 2) rfl)) (fun _ h9 => h9) rfl dX9_readDigit_33 ?_
    refine lv_iconst (v := 1) hx hb dX9_readDigit_36 (by decide) ?_
    refine lv_iadd hx hb dX9_readDigit_37 ?_
    refine top_i (y := (nI (p9 + 1))) (nI_1 p9) ?_
    refine va_put (D := D) (ci := 9) (v := .int (nI (p9 + 1))) (ty := .int) (C := RX9) (T := TX9) (N := 26) hx hb hts hiX9 tyX9 tyX9_ok nmX9 hown hK hP hD hS 0 rfl rfl 19 (by decide) (hts (.fieldLink RX9 146 "LedgeLeapsModel" "place" "I") (List.mem_of_getElem? (i := 2) rfl)) (fun _ h9 => h9) rfl (by decide +kernel) rfl rfl (Nat.le_of_ble_eq_true rfl) dX9_readDigit_38 (fun H locs hP hD hS => ?_)
    have hP : va_P D vwCl (oX9 mo zs zv vn zl zk zt (nI tn) vh zg zi zw vg zo ze vc vr vt vo (bI vm) (nI (p9 + 1)) va vb ((gt p9) - 48) vq zd vz :: aI cI zt 60 gt :: X) H := hP
    have hD : va_D A (oX9 mo zs zv vn zl zk zt (nI tn) vh zg zi zw vg zo ze vc vr vt vo (bI vm) (nI (p9 + 1)) va vb ((gt p9) - 48) vq zd vz :: aI cI zt 60 gt :: X) := hD
    refine lv_iconst (v := 1) hx hb dX9_readDigit_41 (by decide) ?_
    exact W.zret (v := 1) (ty := .boolean) hx hb hr (rfl) (fun t9 ht9 hW9 => ⟨⟨1, (gt p9 - 48, p9 + 1), rfl, ⟨by rw [bt_c c_10]; rfl, fun _ => ⟨rfl, rfl⟩, fun q => absurd (bt_c c_10) (by rw [q]; decide)⟩, by rw [ht9]; exact hP, hD⟩, hS.F ht9⟩) hS.2.2 dX9_readDigit_42
  · refine lv_iconst (v := 0) hx hb dX9_readDigit_13 (by decide) ?_
    exact W.zret (v := 0) (ty := .boolean) hx hb hr (rfl) (fun t9 ht9 hW9 => ⟨⟨0, (vd, p9), rfl, ⟨by rw [bf_c c_10]; rfl, fun q => absurd q (by rw [bf_c c_10]; decide), fun _ => rfl⟩, by rw [ht9]; exact hP, hD⟩, hS.F ht9⟩) hS.2.2 dX9_readDigit_14
set_option maxHeartbeats 4000000 in
set_option maxRecDepth 100000 in
theorem n_readSide (l : Launch) (D : va_G) (cI cZ cW cJ : ClassId) (A : Nat → Prop) (X : va_W) (mo zs zv zl zk zt zg zi zw zo ze zd : Nat) (vn vh vg vc vr vt vo va vb vd vq : Int32) (vm : Bool) (vz : Int64) (tn p9 : Nat) (gt : Nat → Int32) (htn : tn ≤ 60) (hp9 : p9 ≤ tn + 1) : Met l yX9_readSide wsX9_readSide ({ frames := 3, cells := 0, slots := 0, locals := 66 }) (va_Pc [.ref mo] (wd D (tyL cI cZ cW cJ) A (oX9 mo zs zv vn zl zk zt (nI tn) vh zg zi zw vg zo ze vc vr vt vo (bI vm) (nI p9) va vb vd vq zd vz :: aI cI zt 60 gt :: X))) (va_Qi (fun (r : Int32) (u : Int32 × Nat) => r = bI (!decide ((sdN gt tn p9).1 = 0)) ∧ u.1 = (sdN gt tn p9).1 ∧ u.2 = (sdN gt tn p9).2) (fun (u : Int32 × Nat) t => wq D A (oX9 mo zs zv vn zl zk zt (nI tn) vh zg zi zw vg zo ze vc vr vt vo (bI vm) (nI u.2) va u.1 vd vq zd vz :: aI cI zt 60 gt :: X) t) A) 0 0 A := by
  refine Met.ofW (cc := cX9_readSide) (maxL := 1) (ret := (some .boolean)) (by decide) rfl ?_
  intro p e s m args below meth c s₁ B hml hv
  obtain ⟨rfl, hsz9, hP, hK, hD, hN⟩ := hv
  have hx := B.exec
  have hb := B.bytes
  have hr := B.returns
  have hts := atoms_spec (ws := wsX9_readSide) B.pre
  have hown : s.vm.findClass RX9 = some m.cls := findClass_of_methodNamed B.named
  have hlocks := B.notSynchronized
  have CF : CallFix p m c cX9_readSide 1 s _ wsX9_readSide RX9 := ⟨hx, hb, hml, hown, hts⟩
  have hA : ∀ q : Nat, s.heap.size ≤ q → A q := hsz9
  have hS : va_S A s.heap s.heap [] := va_S.rf
  have hiX9 : ∀ w ∈ u_ws RX9 TX9 26, w ∈ wsX9_readSide := fun _ h => List.mem_cons_of_mem _ (List.mem_append_right _ (h))
  have hl := lv_entry ([.ref mo]) (n := 1) (Nat.le_of_ble_eq_true rfl)
  rw [lg_entry_eq]
  generalize (lg_sl ([.ref mo]) ++ List.replicate (1 - (lg_sl ([.ref mo])).length) Slot.unset).toArray = ls at hl ⊢
  have hl : lv_has ls 1 [(0, .ref mo)] := hl
  show W p l e ({ frames := 3, cells := 0, slots := 0, locals := 66 } : Room) s m (([.ref mo] : List Value).toArray) below meth c s.heap [] 0 0 (MQ below (va_Qi (fun (r : Int32) (u : Int32 × Nat) => r = bI (!decide ((sdN gt tn p9).1 = 0)) ∧ u.1 = (sdN gt tn p9).1 ∧ u.2 = (sdN gt tn p9).2) (fun (u : Int32 × Nat) t => wq D A (oX9 mo zs zv vn zl zk zt (nI tn) vh zg zi zw vg zo ze vc vr vt vo (bI vm) (nI u.2) va u.1 vd vq zd vz :: aI cI zt 60 gt :: X) t) A) (([.ref mo] : List Value).toArray) s 0 0 A) (F0 m 0 ls [])
  refine lv_aload_n hx hb dX9_readSide_0 rfl (lv_at hl 0 rfl) ?_
  refine lv_aload_n hx hb dX9_readSide_1 rfl (lv_at hl 0 rfl) ?_
  refine lv_bipush (v := 43) hx hb dX9_readSide_2 (by decide) ?_
  refine cV_i CF hK hN hA hS (cut_of 2 [0, 1] hP hD rfl rfl rfl) (n_takes l D cI cZ cW cJ A (X) mo zs zv zl zk zt zg zi zw zo ze zd vn vh vg vc vr vt vo va vb vd vq vm vz tn p9 gt 43 htn hp9) (cwV 1 hts gX9_readSide_X9_takes rfl rfl rfl (by decide +kernel) ⟨Nat.le_of_ble_eq_true rfl, Nat.le_of_ble_eq_true rfl⟩) (As := [.int 43]) (rest := [.ref mo]) (ci := 9) (q0 := 0) rfl rfl rfl hl.1 rfl (Nat.le_of_ble_eq_true rfl) dX9_readSide_4 ⟨Nat.le_of_ble_eq_true rfl, Nat.le_of_ble_eq_true rfl⟩ (fun r_4 u_4 H locs hq hP hD hS => ?_)
  have hq_4 : r_4 = bI (isN gt tn p9 43 43) ∧ (isN gt tn p9 43 43 = true → u_4 = p9 + 1 ∧ p9 < tn) ∧ (isN gt tn p9 43 43 = false → u_4 = p9) := hq
  have hr_4 : r_4 = bI (isN gt tn p9 43 43) := hq_4.1
  subst hr_4
  have hP : va_P D vwCl (oX9 mo zs zv vn zl zk zt (nI tn) vh zg zi zw vg zo ze vc vr vt vo (bI vm) (nI u_4) va vb vd vq zd vz :: aI cI zt 60 gt :: X) H := pm_P hP 2 [0, 1] rfl
  have hD : va_D A (oX9 mo zs zv vn zl zk zt (nI tn) vh zg zi zw vg zo ze vc vr vt vo (bI vm) (nI u_4) va vb vd vq zd vz :: aI cI zt 60 gt :: X) := pm_D hD 2 [0, 1] rfl rfl rfl
  refine lv_if_eq (tgt := 14) hx hb dX9_readSide_7 (by decide) (fun c_7 => ?_) (fun c_7 => ?_)
  · have h4 : u_4 = p9 := hq_4.2.2 (bf_c c_7)
    refine lv_aload_n hx hb dX9_readSide_14 rfl (lv_at hl 0 rfl) ?_
    refine lv_bipush (v := 45) hx hb dX9_readSide_15 (by decide) ?_
    refine cV_i CF hK hN hA hS (cut_of 2 [0, 1] hP hD rfl rfl rfl) (n_takes l D cI cZ cW cJ A (X) mo zs zv zl zk zt zg zi zw zo ze zd vn vh vg vc vr vt vo va vb vd vq vm vz tn u_4 gt 45 htn (by rw [h4]; exact hp9)) (cwV 1 hts gX9_readSide_X9_takes rfl rfl rfl (by decide +kernel) ⟨Nat.le_of_ble_eq_true rfl, Nat.le_of_ble_eq_true rfl⟩) (As := [.int 45]) (rest := [.ref mo]) (ci := 9) (q0 := 0) rfl rfl rfl hl.1 rfl (Nat.le_of_ble_eq_true rfl) dX9_readSide_17 ⟨Nat.le_of_ble_eq_true rfl, Nat.le_of_ble_eq_true rfl⟩ (fun r_17 u_17 H locs hq hP hD hS => ?_)
    have hq_17 : r_17 = bI (isN gt tn u_4 45 45) ∧ (isN gt tn u_4 45 45 = true → u_17 = u_4 + 1 ∧ u_4 < tn) ∧ (isN gt tn u_4 45 45 = false → u_17 = u_4) := hq
    have hr_17 : r_17 = bI (isN gt tn u_4 45 45) := hq_17.1
    subst hr_17
    have hP : va_P D vwCl (oX9 mo zs zv vn zl zk zt (nI tn) vh zg zi zw vg zo ze vc vr vt vo (bI vm) (nI u_17) va vb vd vq zd vz :: aI cI zt 60 gt :: X) H := pm_P hP 2 [0, 1] rfl
    have hD : va_D A (oX9 mo zs zv vn zl zk zt (nI tn) vh zg zi zw vg zo ze vc vr vt vo (bI vm) (nI u_17) va vb vd vq zd vz :: aI cI zt 60 gt :: X) := pm_D hD 2 [0, 1] rfl rfl rfl
    refine lv_if_eq (tgt := 27) hx hb dX9_readSide_20 (by decide) (fun c_20 => ?_) (fun c_20 => ?_)
    · refine lv_iconst (v := 0) hx hb dX9_readSide_27 (by decide) ?_
      have h20 : isN gt tn p9 45 45 = false := by rw [← h4]; exact bf_c c_20
      refine va_put (D := D) (ci := 9) (v := .int 0) (ty := .int) (C := RX9) (T := TX9) (N := 26) hx hb hts hiX9 tyX9 tyX9_ok nmX9 hown hK hP hD hS 0 rfl rfl 21 (by decide) (hts (.fieldLink RX9 152 "LedgeLeapsModel" "one" "I") (List.mem_of_getElem? (i := 1) rfl)) (fun _ h9 => h9) rfl (by decide +kernel) rfl rfl (Nat.le_of_ble_eq_true rfl) dX9_readSide_28 (fun H locs hP hD hS => ?_)
      have hP : va_P D vwCl (oX9 mo zs zv vn zl zk zt (nI tn) vh zg zi zw vg zo ze vc vr vt vo (bI vm) (nI u_17) va 0 vd vq zd vz :: aI cI zt 60 gt :: X) H := hP
      have hD : va_D A (oX9 mo zs zv vn zl zk zt (nI tn) vh zg zi zw vg zo ze vc vr vt vo (bI vm) (nI u_17) va 0 vd vq zd vz :: aI cI zt 60 gt :: X) := hD
      refine lv_aload_n hx hb dX9_readSide_31 rfl (lv_at hl 0 rfl) ?_
      refine va_get (D := D) (ci := 9) (v := .int 0) (C := RX9) (T := TX9) (N := 26) hx hb hts hiX9 hown hK hP 0 rfl rfl 21 (by decide) (hts (.fieldLink RX9 152 "LedgeLeapsModel" "one" "I") (List.mem_of_getElem? (i := 1) rfl)) (fun _ h9 => h9) rfl dX9_readSide_32 ?_
      have c_35 : (0 : Int32) = 0 := by decide
      refine lv_if_eq (tgt := 42) hx hb dX9_readSide_35 (by decide) (fun _ => ?_) (fun q => absurd c_35 q)
      refine lv_iconst (v := 0) hx hb dX9_readSide_42 (by decide) ?_
      exact W.zret (v := 0) (ty := .boolean) hx hb hr (rfl) (fun t9 ht9 hW9 => ⟨⟨0, (0, u_17), rfl, by unfold sdN; rw [if_neg (by rw [bf_c c_7]; decide), if_neg (by rw [h20]; decide)]; exact ⟨rfl, rfl, (hq_17.2.2 (bf_c c_20)).trans h4⟩, by rw [ht9]; exact hP, hD⟩, hS.F ht9⟩) hS.2.2 dX9_readSide_43
    · refine lv_iconst (v := (-1)) hx hb dX9_readSide_23 (by decide) ?_
      refine lv_goto (tgt := 28) hx hb dX9_readSide_24 (by decide) ?_
      have h20 : isN gt tn p9 45 45 = true := by rw [← h4]; exact bt_c c_20
      refine va_put (D := D) (ci := 9) (v := .int (-1)) (ty := .int) (C := RX9) (T := TX9) (N := 26) hx hb hts hiX9 tyX9 tyX9_ok nmX9 hown hK hP hD hS 0 rfl rfl 21 (by decide) (hts (.fieldLink RX9 152 "LedgeLeapsModel" "one" "I") (List.mem_of_getElem? (i := 1) rfl)) (fun _ h9 => h9) rfl (by decide +kernel) rfl rfl (Nat.le_of_ble_eq_true rfl) dX9_readSide_28 (fun H locs hP hD hS => ?_)
      have hP : va_P D vwCl (oX9 mo zs zv vn zl zk zt (nI tn) vh zg zi zw vg zo ze vc vr vt vo (bI vm) (nI u_17) va (-1) vd vq zd vz :: aI cI zt 60 gt :: X) H := hP
      have hD : va_D A (oX9 mo zs zv vn zl zk zt (nI tn) vh zg zi zw vg zo ze vc vr vt vo (bI vm) (nI u_17) va (-1) vd vq zd vz :: aI cI zt 60 gt :: X) := hD
      refine lv_aload_n hx hb dX9_readSide_31 rfl (lv_at hl 0 rfl) ?_
      refine va_get (D := D) (ci := 9) (v := .int (-1)) (C := RX9) (T := TX9) (N := 26) hx hb hts hiX9 hown hK hP 0 rfl rfl 21 (by decide) (hts (.fieldLink RX9 152 "LedgeLeapsModel" "one" "I") (List.mem_of_getElem? (i := 1) rfl)) (fun _ h9 => h9) rfl dX9_readSide_32 ?_
      have c_35 : ¬ ((-1) : Int32) = 0 := by decide
      refine lv_if_eq (tgt := 42) hx hb dX9_readSide_35 (by decide) (fun q => absurd q c_35) (fun _ => ?_)
      refine lv_iconst (v := 1) hx hb dX9_readSide_38 (by decide) ?_
      refine lv_goto (tgt := 43) hx hb dX9_readSide_39 (by decide) ?_
      exact W.zret (v := 1) (ty := .boolean) hx hb hr (rfl) (fun t9 ht9 hW9 => ⟨⟨1, (-1, u_17), rfl, by unfold sdN; rw [if_neg (by rw [bf_c c_7]; decide), if_pos h20]; exact ⟨rfl, rfl, (hq_17.2.1 (bt_c c_20)).1.trans (by rw [h4])⟩, by rw [ht9]; exact hP, hD⟩, hS.F ht9⟩) hS.2.2 dX9_readSide_43
  · refine lv_iconst (v := 1) hx hb dX9_readSide_10 (by decide) ?_
    refine lv_goto (tgt := 28) hx hb dX9_readSide_11 (by decide) ?_
    refine va_put (D := D) (ci := 9) (v := .int 1) (ty := .int) (C := RX9) (T := TX9) (N := 26) hx hb hts hiX9 tyX9 tyX9_ok nmX9 hown hK hP hD hS 0 rfl rfl 21 (by decide) (hts (.fieldLink RX9 152 "LedgeLeapsModel" "one" "I") (List.mem_of_getElem? (i := 1) rfl)) (fun _ h9 => h9) rfl (by decide +kernel) rfl rfl (Nat.le_of_ble_eq_true rfl) dX9_readSide_28 (fun H locs hP hD hS => ?_)
    have hP : va_P D vwCl (oX9 mo zs zv vn zl zk zt (nI tn) vh zg zi zw vg zo ze vc vr vt vo (bI vm) (nI u_4) va 1 vd vq zd vz :: aI cI zt 60 gt :: X) H := hP
    have hD : va_D A (oX9 mo zs zv vn zl zk zt (nI tn) vh zg zi zw vg zo ze vc vr vt vo (bI vm) (nI u_4) va 1 vd vq zd vz :: aI cI zt 60 gt :: X) := hD
    refine lv_aload_n hx hb dX9_readSide_31 rfl (lv_at hl 0 rfl) ?_
    refine va_get (D := D) (ci := 9) (v := .int 1) (C := RX9) (T := TX9) (N := 26) hx hb hts hiX9 hown hK hP 0 rfl rfl 21 (by decide) (hts (.fieldLink RX9 152 "LedgeLeapsModel" "one" "I") (List.mem_of_getElem? (i := 1) rfl)) (fun _ h9 => h9) rfl dX9_readSide_32 ?_
    have c_35 : ¬ (1 : Int32) = 0 := by decide
    refine lv_if_eq (tgt := 42) hx hb dX9_readSide_35 (by decide) (fun q => absurd q c_35) (fun _ => ?_)
    refine lv_iconst (v := 1) hx hb dX9_readSide_38 (by decide) ?_
    refine lv_goto (tgt := 43) hx hb dX9_readSide_39 (by decide) ?_
    exact W.zret (v := 1) (ty := .boolean) hx hb hr (rfl) (fun t9 ht9 hW9 => ⟨⟨1, (1, u_4), rfl, by unfold sdN; rw [if_pos (bt_c c_7)]; exact ⟨rfl, rfl, (hq_4.2.1 (bt_c c_7)).1⟩, by rw [ht9]; exact hP, hD⟩, hS.F ht9⟩) hS.2.2 dX9_readSide_43
theorem sd_le {co : Nat → Int32} {n p : Nat} (h : p ≤ n + 1) : (sdN co n p).2 ≤ n + 1 := by
  unfold sdN
  by_cases c1 : isN co n p 43 43 = true
  · rw [if_pos c1]; have := (isN_t c1).1; show p + 1 ≤ n + 1; omega
  · rw [if_neg c1]
    by_cases c2 : isN co n p 45 45 = true
    · rw [if_pos c2]; have := (isN_t c2).1; show p + 1 ≤ n + 1; omega
    · rw [if_neg c2]; exact h
set_option maxHeartbeats 4000000 in
set_option maxRecDepth 100000 in
theorem n_readOrder (l : Launch) (D : va_G) (cI cZ cW cJ : ClassId) (A : Nat → Prop) (X : va_W) (mo zs zv zl zk zt zg zi zw zo ze zd : Nat) (vn vh vg vc vr vt vo va vb vd vq : Int32) (vm : Bool) (vz : Int64) (tn p9 : Nat) (gt : Nat → Int32) (htn : tn ≤ 60) (hp9 : p9 ≤ tn + 1) : Met l yX9_readOrder wsX9_readOrder ({ frames := 4, cells := 0, slots := 0, locals := 86 }) (va_Pc [.ref mo] (wd D (tyL cI cZ cW cJ) A (oX9 mo zs zv vn zl zk zt (nI tn) vh zg zi zw vg zo ze vc vr vt vo (bI vm) (nI p9) va vb vd vq zd vz :: aI cI zt 60 gt :: X))) (va_Qi (fun (r : Int32) (u : Bool × Int32 × Int32 × Int32 × Nat) => r = bI u.1 ∧ RdM gt tn p9 u.1 u.2.1 u.2.2.1 u.2.2.2.1 u.2.2.2.2) (fun (u : Bool × Int32 × Int32 × Int32 × Nat) t => wq D A (oX9 mo zs zv vn zl zk zt (nI tn) vh zg zi zw vg zo ze vc vr vt vo (bI vm) (nI u.2.2.2.2) u.2.1 u.2.2.1 u.2.2.2.1 vq zd vz :: aI cI zt 60 gt :: X) t) A) 0 0 A := by
  refine Met.ofW (cc := cX9_readOrder) (maxL := 1) (ret := (some .boolean)) (by decide) rfl ?_
  intro p e s m args below meth c s₁ B hml hv
  obtain ⟨rfl, hsz9, hP, hK, hD, hN⟩ := hv
  have hx := B.exec
  have hb := B.bytes
  have hr := B.returns
  have hts := atoms_spec (ws := wsX9_readOrder) B.pre
  have hown : s.vm.findClass RX9 = some m.cls := findClass_of_methodNamed B.named
  have hlocks := B.notSynchronized
  have CF : CallFix p m c cX9_readOrder 1 s _ wsX9_readOrder RX9 := ⟨hx, hb, hml, hown, hts⟩
  have hA : ∀ q : Nat, s.heap.size ≤ q → A q := hsz9
  have hS : va_S A s.heap s.heap [] := va_S.rf
  have hiX9 : ∀ w ∈ u_ws RX9 TX9 26, w ∈ wsX9_readOrder := fun _ h => List.mem_cons_of_mem _ (List.mem_append_right _ (h))
  have hl := lv_entry ([.ref mo]) (n := 1) (Nat.le_of_ble_eq_true rfl)
  rw [lg_entry_eq]
  generalize (lg_sl ([.ref mo]) ++ List.replicate (1 - (lg_sl ([.ref mo])).length) Slot.unset).toArray = ls at hl ⊢
  have hl : lv_has ls 1 [(0, .ref mo)] := hl
  show W p l e ({ frames := 4, cells := 0, slots := 0, locals := 86 } : Room) s m (([.ref mo] : List Value).toArray) below meth c s.heap [] 0 0 (MQ below (va_Qi (fun (r : Int32) (u : Bool × Int32 × Int32 × Int32 × Nat) => r = bI u.1 ∧ RdM gt tn p9 u.1 u.2.1 u.2.2.1 u.2.2.2.1 u.2.2.2.2) (fun (u : Bool × Int32 × Int32 × Int32 × Nat) t => wq D A (oX9 mo zs zv vn zl zk zt (nI tn) vh zg zi zw vg zo ze vc vr vt vo (bI vm) (nI u.2.2.2.2) u.2.1 u.2.2.1 u.2.2.2.1 vq zd vz :: aI cI zt 60 gt :: X) t) A) (([.ref mo] : List Value).toArray) s 0 0 A) (F0 m 0 ls [])
  refine lv_aload_n hx hb dX9_readOrder_0 rfl (lv_at hl 0 rfl) ?_
  refine lv_aload_n hx hb dX9_readOrder_1 rfl (lv_at hl 0 rfl) ?_
  refine va_get (D := D) (ci := 9) (v := .int (nI p9)) (C := RX9) (T := TX9) (N := 26) hx hb hts hiX9 hown hK hP 0 rfl rfl 19 (by decide) (hts (.fieldLink RX9 146 "LedgeLeapsModel" "place" "I") (List.mem_of_getElem? (i := 1) rfl)) (fun _ h9 => h9) rfl dX9_readOrder_2 ?_
  refine lv_aload_n hx hb dX9_readOrder_5 rfl (lv_at hl 0 rfl) ?_
  refine va_get (D := D) (ci := 9) (v := .int (nI tn)) (C := RX9) (T := TX9) (N := 26) hx hb hts hiX9 hown hK hP 0 rfl rfl 6 (by decide) (hts (.fieldLink RX9 143 "LedgeLeapsModel" "length" "I") (List.mem_of_getElem? (i := 2) rfl)) (fun _ h9 => h9) rfl dX9_readOrder_6 ?_
  refine lv_icmp_ge (tgt := 24) hx hb dX9_readOrder_9 (by decide) (fun c_9 => ?_) (fun c_9 => ?_)
  · refine lv_iconst (v := 0) hx hb dX9_readOrder_24 (by decide) ?_
    refine va_put (D := D) (ci := 9) (v := .int 0) (ty := .int) (C := RX9) (T := TX9) (N := 26) hx hb hts hiX9 tyX9 tyX9_ok nmX9 hown hK hP hD hS 0 rfl rfl 20 (by decide) (hts (.fieldLink RX9 161 "LedgeLeapsModel" "letter" "I") (List.mem_of_getElem? (i := 4) rfl)) (fun _ h9 => h9) rfl (by decide +kernel) rfl rfl (Nat.le_of_ble_eq_true rfl) dX9_readOrder_25 (fun H locs hP hD hS => ?_)
    have hP : va_P D vwCl (oX9 mo zs zv vn zl zk zt (nI tn) vh zg zi zw vg zo ze vc vr vt vo (bI vm) (nI p9) 0 vb vd vq zd vz :: aI cI zt 60 gt :: X) H := hP
    have hD : va_D A (oX9 mo zs zv vn zl zk zt (nI tn) vh zg zi zw vg zo ze vc vr vt vo (bI vm) (nI p9) 0 vb vd vq zd vz :: aI cI zt 60 gt :: X) := hD
    refine lv_aload_n hx hb dX9_readOrder_28 rfl (lv_at hl 0 rfl) ?_
    refine va_get (D := D) (ci := 9) (v := .int 0) (C := RX9) (T := TX9) (N := 26) hx hb hts hiX9 hown hK hP 0 rfl rfl 20 (by decide) (hts (.fieldLink RX9 161 "LedgeLeapsModel" "letter" "I") (List.mem_of_getElem? (i := 4) rfl)) (fun _ h9 => h9) rfl dX9_readOrder_29 ?_
    refine lv_bipush (v := 98) hx hb dX9_readOrder_32 (by decide) ?_
    have c_34 : ¬ (0 : Int32) = 98 := by decide
    refine lv_icmp_eq (tgt := 57) hx hb dX9_readOrder_34 (by decide) (fun q => absurd q c_34) (fun _ => ?_)
    refine lv_aload_n hx hb dX9_readOrder_37 rfl (lv_at hl 0 rfl) ?_
    refine va_get (D := D) (ci := 9) (v := .int 0) (C := RX9) (T := TX9) (N := 26) hx hb hts hiX9 hown hK hP 0 rfl rfl 20 (by decide) (hts (.fieldLink RX9 161 "LedgeLeapsModel" "letter" "I") (List.mem_of_getElem? (i := 4) rfl)) (fun _ h9 => h9) rfl dX9_readOrder_38 ?_
    refine lv_bipush (v := 119) hx hb dX9_readOrder_41 (by decide) ?_
    have c_43 : ¬ (0 : Int32) = 119 := by decide
    refine lv_icmp_eq (tgt := 57) hx hb dX9_readOrder_43 (by decide) (fun q => absurd q c_43) (fun _ => ?_)
    refine lv_aload_n hx hb dX9_readOrder_46 rfl (lv_at hl 0 rfl) ?_
    refine va_get (D := D) (ci := 9) (v := .int 0) (C := RX9) (T := TX9) (N := 26) hx hb hts hiX9 hown hK hP 0 rfl rfl 20 (by decide) (hts (.fieldLink RX9 161 "LedgeLeapsModel" "letter" "I") (List.mem_of_getElem? (i := 4) rfl)) (fun _ h9 => h9) rfl dX9_readOrder_47 ?_
    refine lv_bipush (v := 108) hx hb dX9_readOrder_50 (by decide) ?_
    have c_52 : ¬ (0 : Int32) = 108 := by decide
    refine lv_icmp_eq (tgt := 57) hx hb dX9_readOrder_52 (by decide) (fun q => absurd q c_52) (fun _ => ?_)
    refine lv_iconst (v := 0) hx hb dX9_readOrder_55 (by decide) ?_
    exact W.zret (v := 0) (ty := .boolean) hx hb hr (rfl) (fun t9 ht9 hW9 => ⟨⟨0, (false, 0, vb, vd, p9), rfl, ⟨rfl, RdM.none (le_of_ge (a := tn) (b := p9) (by omega) (by omega) c_9)⟩, by rw [ht9]; exact hP, hD⟩, hS.F ht9⟩) hS.2.2 dX9_readOrder_56
  · have hpn : p9 < tn := lt_of_nge (a := tn) (b := p9) (by omega) (by omega) c_9
    have hnp : ¬ tn ≤ p9 := by omega
    refine lv_aload_n hx hb dX9_readOrder_12 rfl (lv_at hl 0 rfl) ?_
    refine va_get (D := D) (ci := 9) (v := .ref zt) (C := RX9) (T := TX9) (N := 26) hx hb hts hiX9 hown hK hP 0 rfl rfl 5 (by decide) (hts (.fieldLink RX9 23 "LedgeLeapsModel" "text" "[I") (List.mem_of_getElem? (i := 3) rfl)) (fun _ h9 => h9) rfl dX9_readOrder_13 ?_
    refine lv_aload_n hx hb dX9_readOrder_16 rfl (lv_at hl 0 rfl) ?_
    refine va_get (D := D) (ci := 9) (v := .int (nI p9)) (C := RX9) (T := TX9) (N := 26) hx hb hts hiX9 hown hK hP 0 rfl rfl 19 (by decide) (hts (.fieldLink RX9 146 "LedgeLeapsModel" "place" "I") (List.mem_of_getElem? (i := 1) rfl)) (fun _ h9 => h9) rfl dX9_readOrder_17 ?_
    refine va_iald hx hb hK hP 1 0 rfl rfl (vp_ix (e := p9) (rfl) (by omega) (by decide)) dX9_readOrder_20 ?_
    refine top_i (y := (gt p9)) (ld_ix (f := gt) (x := (nI p9)) (e := p9) (n := 60) (rfl) (by omega) (by decide)) ?_
    refine lv_goto (tgt := 25) hx hb dX9_readOrder_21 (by decide) ?_
    refine va_put (D := D) (ci := 9) (v := .int (gt p9)) (ty := .int) (C := RX9) (T := TX9) (N := 26) hx hb hts hiX9 tyX9 tyX9_ok nmX9 hown hK hP hD hS 0 rfl rfl 20 (by decide) (hts (.fieldLink RX9 161 "LedgeLeapsModel" "letter" "I") (List.mem_of_getElem? (i := 4) rfl)) (fun _ h9 => h9) rfl (by decide +kernel) rfl rfl (Nat.le_of_ble_eq_true rfl) dX9_readOrder_25 (fun H locs hP hD hS => ?_)
    have hP : va_P D vwCl (oX9 mo zs zv vn zl zk zt (nI tn) vh zg zi zw vg zo ze vc vr vt vo (bI vm) (nI p9) (gt p9) vb vd vq zd vz :: aI cI zt 60 gt :: X) H := hP
    have hD : va_D A (oX9 mo zs zv vn zl zk zt (nI tn) vh zg zi zw vg zo ze vc vr vt vo (bI vm) (nI p9) (gt p9) vb vd vq zd vz :: aI cI zt 60 gt :: X) := hD
    refine lv_aload_n hx hb dX9_readOrder_28 rfl (lv_at hl 0 rfl) ?_
    refine va_get (D := D) (ci := 9) (v := .int (gt p9)) (C := RX9) (T := TX9) (N := 26) hx hb hts hiX9 hown hK hP 0 rfl rfl 20 (by decide) (hts (.fieldLink RX9 161 "LedgeLeapsModel" "letter" "I") (List.mem_of_getElem? (i := 4) rfl)) (fun _ h9 => h9) rfl dX9_readOrder_29 ?_
    refine lv_bipush (v := 98) hx hb dX9_readOrder_32 (by decide) ?_
    refine lv_icmp_eq (tgt := 57) hx hb dX9_readOrder_34 (by decide) (fun c_34 => ?_) (fun c_34 => ?_)
    · refine lv_aload_n hx hb dX9_readOrder_57 rfl (lv_at hl 0 rfl) ?_
      refine lv_dup hx hb dX9_readOrder_58 rfl ?_
      refine va_get (D := D) (ci := 9) (v := .int (nI p9)) (C := RX9) (T := TX9) (N := 26) hx hb hts hiX9 hown hK hP 0 rfl rfl 19 (by decide) (hts (.fieldLink RX9 146 "LedgeLeapsModel" "place" "I") (List.mem_of_getElem? (i := 1) rfl)) (fun _ h9 => h9) rfl dX9_readOrder_59 ?_
      refine lv_iconst (v := 1) hx hb dX9_readOrder_62 (by decide) ?_
      refine lv_iadd hx hb dX9_readOrder_63 ?_
      refine top_i (y := (nI (p9 + 1))) (nI_1 p9) ?_
      refine va_put (D := D) (ci := 9) (v := .int (nI (p9 + 1))) (ty := .int) (C := RX9) (T := TX9) (N := 26) hx hb hts hiX9 tyX9 tyX9_ok nmX9 hown hK hP hD hS 0 rfl rfl 19 (by decide) (hts (.fieldLink RX9 146 "LedgeLeapsModel" "place" "I") (List.mem_of_getElem? (i := 1) rfl)) (fun _ h9 => h9) rfl (by decide +kernel) rfl rfl (Nat.le_of_ble_eq_true rfl) dX9_readOrder_64 (fun H locs hP hD hS => ?_)
      have hP : va_P D vwCl (oX9 mo zs zv vn zl zk zt (nI tn) vh zg zi zw vg zo ze vc vr vt vo (bI vm) (nI (p9 + 1)) (gt p9) vb vd vq zd vz :: aI cI zt 60 gt :: X) H := hP
      have hD : va_D A (oX9 mo zs zv vn zl zk zt (nI tn) vh zg zi zw vg zo ze vc vr vt vo (bI vm) (nI (p9 + 1)) (gt p9) vb vd vq zd vz :: aI cI zt 60 gt :: X) := hD
      refine lv_aload_n hx hb dX9_readOrder_67 rfl (lv_at hl 0 rfl) ?_
      refine va_get (D := D) (ci := 9) (v := .int (gt p9)) (C := RX9) (T := TX9) (N := 26) hx hb hts hiX9 hown hK hP 0 rfl rfl 20 (by decide) (hts (.fieldLink RX9 161 "LedgeLeapsModel" "letter" "I") (List.mem_of_getElem? (i := 4) rfl)) (fun _ h9 => h9) rfl dX9_readOrder_68 ?_
      refine lv_bipush (v := 98) hx hb dX9_readOrder_71 (by decide) ?_
      have c_73 : ((gt p9) : Int32) = 98 := c_34
      refine lv_icmp_ne (tgt := 107) hx hb dX9_readOrder_73 (by decide) (fun q => absurd c_73 q) (fun _ => ?_)
      refine lv_aload_n hx hb dX9_readOrder_76 rfl (lv_at hl 0 rfl) ?_
      refine cV_i CF hK hN hA hS (cut_of 2 [0, 1] hP hD rfl rfl rfl) (n_readColumn l D cI cZ cW cJ A (X) mo zs zv zl zk zt zg zi zw zo ze zd vn vh vg vc vr vt vo (gt p9) vb vd vq vm vz tn (p9 + 1) gt htn (by omega)) (cwV 0 hts gX9_readOrder_X9_readColumn rfl rfl rfl (by decide +kernel) ⟨Nat.le_of_ble_eq_true rfl, Nat.le_of_ble_eq_true rfl⟩) (As := []) (rest := []) (ci := 9) (q0 := 0) rfl rfl rfl hl.1 rfl (Nat.le_of_ble_eq_true rfl) dX9_readOrder_77 ⟨Nat.le_of_ble_eq_true rfl, Nat.le_of_ble_eq_true rfl⟩ (fun r_77 u_77 H locs hq hP hD hS => ?_)
      have hq_77 : r_77 = bI (mCol gt tn (p9 + 1)).1 ∧ u_77.2 = (mCol gt tn (p9 + 1)).2.2 ∧ ((mCol gt tn (p9 + 1)).1 = true → u_77.1 = (mCol gt tn (p9 + 1)).2.1) := hq
      have hr_77 : r_77 = bI (mCol gt tn (p9 + 1)).1 := hq_77.1
      subst hr_77
      have hP : va_P D vwCl (oX9 mo zs zv vn zl zk zt (nI tn) vh zg zi zw vg zo ze vc vr vt vo (bI vm) (nI u_77.2) (gt p9) u_77.1 vd vq zd vz :: aI cI zt 60 gt :: X) H := pm_P hP 2 [0, 1] rfl
      have hD : va_D A (oX9 mo zs zv vn zl zk zt (nI tn) vh zg zi zw vg zo ze vc vr vt vo (bI vm) (nI u_77.2) (gt p9) u_77.1 vd vq zd vz :: aI cI zt 60 gt :: X) := pm_D hD 2 [0, 1] rfl rfl rfl
      have e77 : u_77.2 = (mCol gt tn (p9 + 1)).2.2 := hq_77.2.1
      have l77 := col_le (co := gt) (n := tn) (p := p9 + 1) (by omega)
      refine lv_if_eq (tgt := 105) hx hb dX9_readOrder_80 (by decide) (fun c_80 => ?_) (fun c_80 => ?_)
      · refine lv_iconst (v := 0) hx hb dX9_readOrder_105 (by decide) ?_
        exact W.zret (v := 0) (ty := .boolean) hx hb hr (rfl) (fun t9 ht9 hW9 => ⟨⟨0, (false, gt p9, u_77.1, vd, u_77.2), rfl, ⟨rfl, by rw [show gt p9 = 98 from c_34]; exact RdM.build hnp c_34 (Or.inl ⟨bf_c c_80, rfl, e77⟩)⟩, by rw [ht9]; exact hP, hD⟩, hS.F ht9⟩) hS.2.2 dX9_readOrder_106
      · refine lv_aload_n hx hb dX9_readOrder_83 rfl (lv_at hl 0 rfl) ?_
        refine lv_bipush (v := 44) hx hb dX9_readOrder_84 (by decide) ?_
        refine cV_i CF hK hN hA hS (cut_of 2 [0, 1] hP hD rfl rfl rfl) (n_takes l D cI cZ cW cJ A (X) mo zs zv zl zk zt zg zi zw zo ze zd vn vh vg vc vr vt vo (gt p9) u_77.1 vd vq vm vz tn u_77.2 gt 44 htn (by rw [e77]; omega)) (cwV 1 hts gX9_readOrder_X9_takes rfl rfl rfl (by decide +kernel) ⟨Nat.le_of_ble_eq_true rfl, Nat.le_of_ble_eq_true rfl⟩) (As := [.int 44]) (rest := []) (ci := 9) (q0 := 0) rfl rfl rfl hl.1 rfl (Nat.le_of_ble_eq_true rfl) dX9_readOrder_86 ⟨Nat.le_of_ble_eq_true rfl, Nat.le_of_ble_eq_true rfl⟩ (fun r_86 u_86 H locs hq hP hD hS => ?_)
        have hq_86 : r_86 = bI (isN gt tn u_77.2 44 44) ∧ (isN gt tn u_77.2 44 44 = true → u_86 = u_77.2 + 1 ∧ u_77.2 < tn) ∧ (isN gt tn u_77.2 44 44 = false → u_86 = u_77.2) := hq
        have hr_86 : r_86 = bI (isN gt tn u_77.2 44 44) := hq_86.1
        subst hr_86
        have hP : va_P D vwCl (oX9 mo zs zv vn zl zk zt (nI tn) vh zg zi zw vg zo ze vc vr vt vo (bI vm) (nI u_86) (gt p9) u_77.1 vd vq zd vz :: aI cI zt 60 gt :: X) H := pm_P hP 2 [0, 1] rfl
        have hD : va_D A (oX9 mo zs zv vn zl zk zt (nI tn) vh zg zi zw vg zo ze vc vr vt vo (bI vm) (nI u_86) (gt p9) u_77.1 vd vq zd vz :: aI cI zt 60 gt :: X) := pm_D hD 2 [0, 1] rfl rfl rfl
        refine lv_if_eq (tgt := 105) hx hb dX9_readOrder_89 (by decide) (fun c_89 => ?_) (fun c_89 => ?_)
        · refine lv_iconst (v := 0) hx hb dX9_readOrder_105 (by decide) ?_
          exact W.zret (v := 0) (ty := .boolean) hx hb hr (rfl) (fun t9 ht9 hW9 => ⟨⟨0, (false, gt p9, u_77.1, vd, u_86), rfl, ⟨rfl, by rw [show gt p9 = 98 from c_34]; exact RdM.build hnp c_34 (Or.inr (Or.inl ⟨bt_c c_80, by rw [← e77]; exact bf_c c_89, rfl, (hq_86.2.2 (bf_c c_89)).trans e77⟩))⟩, by rw [ht9]; exact hP, hD⟩, hS.F ht9⟩) hS.2.2 dX9_readOrder_106
        · obtain ⟨e86, n86⟩ := hq_86.2.1 (bt_c c_89)
          refine lv_aload_n hx hb dX9_readOrder_92 rfl (lv_at hl 0 rfl) ?_
          refine lv_bipush (v := 9) hx hb dX9_readOrder_93 (by decide) ?_
          refine cV_i CF hK hN hA hS (cut_of 2 [0, 1] hP hD rfl rfl rfl) (n_readDigit l D cI cZ cW cJ A (X) mo zs zv zl zk zt zg zi zw zo ze zd vn vh vg vc vr vt vo (gt p9) u_77.1 vd vq vm vz tn u_86 gt 9 htn (by omega)) (cwV 1 hts gX9_readOrder_X9_readDigit rfl rfl rfl (by decide +kernel) ⟨Nat.le_of_ble_eq_true rfl, Nat.le_of_ble_eq_true rfl⟩) (As := [.int 9]) (rest := []) (ci := 9) (q0 := 0) rfl rfl rfl hl.1 rfl (Nat.le_of_ble_eq_true rfl) dX9_readOrder_95 ⟨Nat.le_of_ble_eq_true rfl, Nat.le_of_ble_eq_true rfl⟩ (fun r_95 u_95 H locs hq hP hD hS => ?_)
          have hq_95 : r_95 = bI (isN gt tn u_86 48 (48 + 9)) ∧ ((isN gt tn u_86 48 (48 + 9)) = true → u_95.1 = gt u_86 - 48 ∧ u_95.2 = u_86 + 1) ∧ ((isN gt tn u_86 48 (48 + 9)) = false → u_95.2 = u_86) := hq
          have hr_95 : r_95 = bI (isN gt tn u_86 48 (48 + 9)) := hq_95.1
          subst hr_95
          have hP : va_P D vwCl (oX9 mo zs zv vn zl zk zt (nI tn) vh zg zi zw vg zo ze vc vr vt vo (bI vm) (nI u_95.2) (gt p9) u_77.1 u_95.1 vq zd vz :: aI cI zt 60 gt :: X) H := pm_P hP 2 [0, 1] rfl
          have hD : va_D A (oX9 mo zs zv vn zl zk zt (nI tn) vh zg zi zw vg zo ze vc vr vt vo (bI vm) (nI u_95.2) (gt p9) u_77.1 u_95.1 vq zd vz :: aI cI zt 60 gt :: X) := pm_D hD 2 [0, 1] rfl rfl rfl
          refine lv_if_eq (tgt := 105) hx hb dX9_readOrder_98 (by decide) (fun c_98 => ?_) (fun c_98 => ?_)
          · refine lv_iconst (v := 0) hx hb dX9_readOrder_105 (by decide) ?_
            exact W.zret (v := 0) (ty := .boolean) hx hb hr (rfl) (fun t9 ht9 hW9 => ⟨⟨0, (false, gt p9, u_77.1, u_95.1, u_95.2), rfl, ⟨rfl, by rw [show gt p9 = 98 from c_34]; exact RdM.build hnp c_34 (Or.inr (Or.inr (Or.inl ⟨bt_c c_80, by rw [← e77]; exact bt_c c_89, by rw [← e77, ← e86]; exact bf_c c_98, rfl, (hq_95.2.2 (bf_c c_98)).trans (by rw [e86, e77])⟩)))⟩, by rw [ht9]; exact hP, hD⟩, hS.F ht9⟩) hS.2.2 dX9_readOrder_106
          · refine lv_iconst (v := 1) hx hb dX9_readOrder_101 (by decide) ?_
            refine lv_goto (tgt := 106) hx hb dX9_readOrder_102 (by decide) ?_
            exact W.zret (v := 1) (ty := .boolean) hx hb hr (rfl) (fun t9 ht9 hW9 => ⟨⟨1, (true, gt p9, u_77.1, u_95.1, u_95.2), rfl, ⟨rfl, by rw [show gt p9 = 98 from c_34]; exact RdM.build hnp c_34 (Or.inr (Or.inr (Or.inr ⟨bt_c c_80, by rw [← e77]; exact bt_c c_89, by rw [← e77, ← e86]; exact bt_c c_98, rfl, (hq_95.2.1 (bt_c c_98)).2.trans (by rw [e86, e77]), hq_77.2.2 (bt_c c_80), (hq_95.2.1 (bt_c c_98)).1.trans (by rw [e86, e77])⟩)))⟩, by rw [ht9]; exact hP, hD⟩, hS.F ht9⟩) hS.2.2 dX9_readOrder_106
    · refine lv_aload_n hx hb dX9_readOrder_37 rfl (lv_at hl 0 rfl) ?_
      refine va_get (D := D) (ci := 9) (v := .int (gt p9)) (C := RX9) (T := TX9) (N := 26) hx hb hts hiX9 hown hK hP 0 rfl rfl 20 (by decide) (hts (.fieldLink RX9 161 "LedgeLeapsModel" "letter" "I") (List.mem_of_getElem? (i := 4) rfl)) (fun _ h9 => h9) rfl dX9_readOrder_38 ?_
      refine lv_bipush (v := 119) hx hb dX9_readOrder_41 (by decide) ?_
      refine lv_icmp_eq (tgt := 57) hx hb dX9_readOrder_43 (by decide) (fun c_43 => ?_) (fun c_43 => ?_)
      · refine lv_aload_n hx hb dX9_readOrder_57 rfl (lv_at hl 0 rfl) ?_
        refine lv_dup hx hb dX9_readOrder_58 rfl ?_
        refine va_get (D := D) (ci := 9) (v := .int (nI p9)) (C := RX9) (T := TX9) (N := 26) hx hb hts hiX9 hown hK hP 0 rfl rfl 19 (by decide) (hts (.fieldLink RX9 146 "LedgeLeapsModel" "place" "I") (List.mem_of_getElem? (i := 1) rfl)) (fun _ h9 => h9) rfl dX9_readOrder_59 ?_
        refine lv_iconst (v := 1) hx hb dX9_readOrder_62 (by decide) ?_
        refine lv_iadd hx hb dX9_readOrder_63 ?_
        refine top_i (y := (nI (p9 + 1))) (nI_1 p9) ?_
        refine va_put (D := D) (ci := 9) (v := .int (nI (p9 + 1))) (ty := .int) (C := RX9) (T := TX9) (N := 26) hx hb hts hiX9 tyX9 tyX9_ok nmX9 hown hK hP hD hS 0 rfl rfl 19 (by decide) (hts (.fieldLink RX9 146 "LedgeLeapsModel" "place" "I") (List.mem_of_getElem? (i := 1) rfl)) (fun _ h9 => h9) rfl (by decide +kernel) rfl rfl (Nat.le_of_ble_eq_true rfl) dX9_readOrder_64 (fun H locs hP hD hS => ?_)
        have hP : va_P D vwCl (oX9 mo zs zv vn zl zk zt (nI tn) vh zg zi zw vg zo ze vc vr vt vo (bI vm) (nI (p9 + 1)) (gt p9) vb vd vq zd vz :: aI cI zt 60 gt :: X) H := hP
        have hD : va_D A (oX9 mo zs zv vn zl zk zt (nI tn) vh zg zi zw vg zo ze vc vr vt vo (bI vm) (nI (p9 + 1)) (gt p9) vb vd vq zd vz :: aI cI zt 60 gt :: X) := hD
        refine lv_aload_n hx hb dX9_readOrder_67 rfl (lv_at hl 0 rfl) ?_
        refine va_get (D := D) (ci := 9) (v := .int (gt p9)) (C := RX9) (T := TX9) (N := 26) hx hb hts hiX9 hown hK hP 0 rfl rfl 20 (by decide) (hts (.fieldLink RX9 161 "LedgeLeapsModel" "letter" "I") (List.mem_of_getElem? (i := 4) rfl)) (fun _ h9 => h9) rfl dX9_readOrder_68 ?_
        refine lv_bipush (v := 98) hx hb dX9_readOrder_71 (by decide) ?_
        have c_73 : ¬ ((gt p9) : Int32) = 98 := c_34
        refine lv_icmp_ne (tgt := 107) hx hb dX9_readOrder_73 (by decide) (fun _ => ?_) (fun q => absurd q c_73)
        refine lv_aload_n hx hb dX9_readOrder_107 rfl (lv_at hl 0 rfl) ?_
        refine cV_i CF hK hN hA hS (cut_of 2 [0, 1] hP hD rfl rfl rfl) (n_readSide l D cI cZ cW cJ A (X) mo zs zv zl zk zt zg zi zw zo ze zd vn vh vg vc vr vt vo (gt p9) vb vd vq vm vz tn (p9 + 1) gt htn (by omega)) (cwV 0 hts gX9_readOrder_X9_readSide rfl rfl rfl (by decide +kernel) ⟨Nat.le_of_ble_eq_true rfl, Nat.le_of_ble_eq_true rfl⟩) (As := []) (rest := []) (ci := 9) (q0 := 0) rfl rfl rfl hl.1 rfl (Nat.le_of_ble_eq_true rfl) dX9_readOrder_108 ⟨Nat.le_of_ble_eq_true rfl, Nat.le_of_ble_eq_true rfl⟩ (fun r_108 u_108 H locs hq hP hD hS => ?_)
        have hq_108 : r_108 = bI (!decide ((sdN gt tn (p9 + 1)).1 = 0)) ∧ u_108.1 = (sdN gt tn (p9 + 1)).1 ∧ u_108.2 = (sdN gt tn (p9 + 1)).2 := hq
        have hr_108 : r_108 = bI (!decide ((sdN gt tn (p9 + 1)).1 = 0)) := hq_108.1
        subst hr_108
        have hP : va_P D vwCl (oX9 mo zs zv vn zl zk zt (nI tn) vh zg zi zw vg zo ze vc vr vt vo (bI vm) (nI u_108.2) (gt p9) u_108.1 vd vq zd vz :: aI cI zt 60 gt :: X) H := pm_P hP 2 [0, 1] rfl
        have hD : va_D A (oX9 mo zs zv vn zl zk zt (nI tn) vh zg zi zw vg zo ze vc vr vt vo (bI vm) (nI u_108.2) (gt p9) u_108.1 vd vq zd vz :: aI cI zt 60 gt :: X) := pm_D hD 2 [0, 1] rfl rfl rfl
        have l108 : u_108.2 ≤ tn + 1 := by rw [hq_108.2.2]; exact sd_le (by omega)
        refine lv_if_eq (tgt := 135) hx hb dX9_readOrder_111 (by decide) (fun c_111 => ?_) (fun c_111 => ?_)
        · have s0 : (sdN gt tn (p9 + 1)).1 = 0 := of_decide_eq_true (by have q := bf_c c_111; revert q; cases decide ((sdN gt tn (p9 + 1)).1 = 0) <;> simp)
          refine lv_iconst (v := 0) hx hb dX9_readOrder_135 (by decide) ?_
          exact W.zret (v := 0) (ty := .boolean) hx hb hr (rfl) (fun t9 ht9 hW9 => ⟨⟨0, (false, gt p9, u_108.1, vd, u_108.2), rfl, ⟨rfl, by rw [show gt p9 = 119 from c_43]; exact RdM.walk hnp c_43 hq_108.2.1 hq_108.2.2 (by rw [hq_108.2.1]; exact (bf_c c_111).symm)⟩, by rw [ht9]; exact hP, hD⟩, hS.F ht9⟩) hS.2.2 dX9_readOrder_136
        · have s1 : ¬ (sdN gt tn (p9 + 1)).1 = 0 := fun q => by have := bt_c c_111; rw [decide_eq_true q] at this; cases this
          refine lv_aload_n hx hb dX9_readOrder_114 rfl (lv_at hl 0 rfl) ?_
          refine va_get (D := D) (ci := 9) (v := .int (gt p9)) (C := RX9) (T := TX9) (N := 26) hx hb hts hiX9 hown hK hP 0 rfl rfl 20 (by decide) (hts (.fieldLink RX9 161 "LedgeLeapsModel" "letter" "I") (List.mem_of_getElem? (i := 4) rfl)) (fun _ h9 => h9) rfl dX9_readOrder_115 ?_
          refine lv_bipush (v := 119) hx hb dX9_readOrder_118 (by decide) ?_
          have c_120 : ((gt p9) : Int32) = 119 := c_43
          refine lv_icmp_eq (tgt := 131) hx hb dX9_readOrder_120 (by decide) (fun _ => ?_) (fun q => absurd c_120 q)
          refine lv_iconst (v := 1) hx hb dX9_readOrder_131 (by decide) ?_
          refine lv_goto (tgt := 136) hx hb dX9_readOrder_132 (by decide) ?_
          exact W.zret (v := 1) (ty := .boolean) hx hb hr (rfl) (fun t9 ht9 hW9 => ⟨⟨1, (true, gt p9, u_108.1, vd, u_108.2), rfl, ⟨rfl, by rw [show gt p9 = 119 from c_43]; exact RdM.walk hnp c_43 hq_108.2.1 hq_108.2.2 (by rw [hq_108.2.1]; exact (bt_c c_111).symm)⟩, by rw [ht9]; exact hP, hD⟩, hS.F ht9⟩) hS.2.2 dX9_readOrder_136
      · refine lv_aload_n hx hb dX9_readOrder_46 rfl (lv_at hl 0 rfl) ?_
        refine va_get (D := D) (ci := 9) (v := .int (gt p9)) (C := RX9) (T := TX9) (N := 26) hx hb hts hiX9 hown hK hP 0 rfl rfl 20 (by decide) (hts (.fieldLink RX9 161 "LedgeLeapsModel" "letter" "I") (List.mem_of_getElem? (i := 4) rfl)) (fun _ h9 => h9) rfl dX9_readOrder_47 ?_
        refine lv_bipush (v := 108) hx hb dX9_readOrder_50 (by decide) ?_
        refine lv_icmp_eq (tgt := 57) hx hb dX9_readOrder_52 (by decide) (fun c_52 => ?_) (fun c_52 => ?_)
        · refine lv_aload_n hx hb dX9_readOrder_57 rfl (lv_at hl 0 rfl) ?_
          refine lv_dup hx hb dX9_readOrder_58 rfl ?_
          refine va_get (D := D) (ci := 9) (v := .int (nI p9)) (C := RX9) (T := TX9) (N := 26) hx hb hts hiX9 hown hK hP 0 rfl rfl 19 (by decide) (hts (.fieldLink RX9 146 "LedgeLeapsModel" "place" "I") (List.mem_of_getElem? (i := 1) rfl)) (fun _ h9 => h9) rfl dX9_readOrder_59 ?_
          refine lv_iconst (v := 1) hx hb dX9_readOrder_62 (by decide) ?_
          refine lv_iadd hx hb dX9_readOrder_63 ?_
          refine top_i (y := (nI (p9 + 1))) (nI_1 p9) ?_
          refine va_put (D := D) (ci := 9) (v := .int (nI (p9 + 1))) (ty := .int) (C := RX9) (T := TX9) (N := 26) hx hb hts hiX9 tyX9 tyX9_ok nmX9 hown hK hP hD hS 0 rfl rfl 19 (by decide) (hts (.fieldLink RX9 146 "LedgeLeapsModel" "place" "I") (List.mem_of_getElem? (i := 1) rfl)) (fun _ h9 => h9) rfl (by decide +kernel) rfl rfl (Nat.le_of_ble_eq_true rfl) dX9_readOrder_64 (fun H locs hP hD hS => ?_)
          have hP : va_P D vwCl (oX9 mo zs zv vn zl zk zt (nI tn) vh zg zi zw vg zo ze vc vr vt vo (bI vm) (nI (p9 + 1)) (gt p9) vb vd vq zd vz :: aI cI zt 60 gt :: X) H := hP
          have hD : va_D A (oX9 mo zs zv vn zl zk zt (nI tn) vh zg zi zw vg zo ze vc vr vt vo (bI vm) (nI (p9 + 1)) (gt p9) vb vd vq zd vz :: aI cI zt 60 gt :: X) := hD
          refine lv_aload_n hx hb dX9_readOrder_67 rfl (lv_at hl 0 rfl) ?_
          refine va_get (D := D) (ci := 9) (v := .int (gt p9)) (C := RX9) (T := TX9) (N := 26) hx hb hts hiX9 hown hK hP 0 rfl rfl 20 (by decide) (hts (.fieldLink RX9 161 "LedgeLeapsModel" "letter" "I") (List.mem_of_getElem? (i := 4) rfl)) (fun _ h9 => h9) rfl dX9_readOrder_68 ?_
          refine lv_bipush (v := 98) hx hb dX9_readOrder_71 (by decide) ?_
          have c_73 : ¬ ((gt p9) : Int32) = 98 := c_34
          refine lv_icmp_ne (tgt := 107) hx hb dX9_readOrder_73 (by decide) (fun _ => ?_) (fun q => absurd q c_73)
          refine lv_aload_n hx hb dX9_readOrder_107 rfl (lv_at hl 0 rfl) ?_
          refine cV_i CF hK hN hA hS (cut_of 2 [0, 1] hP hD rfl rfl rfl) (n_readSide l D cI cZ cW cJ A (X) mo zs zv zl zk zt zg zi zw zo ze zd vn vh vg vc vr vt vo (gt p9) vb vd vq vm vz tn (p9 + 1) gt htn (by omega)) (cwV 0 hts gX9_readOrder_X9_readSide rfl rfl rfl (by decide +kernel) ⟨Nat.le_of_ble_eq_true rfl, Nat.le_of_ble_eq_true rfl⟩) (As := []) (rest := []) (ci := 9) (q0 := 0) rfl rfl rfl hl.1 rfl (Nat.le_of_ble_eq_true rfl) dX9_readOrder_108 ⟨Nat.le_of_ble_eq_true rfl, Nat.le_of_ble_eq_true rfl⟩ (fun r_108 u_108 H locs hq hP hD hS => ?_)
          have hq_108 : r_108 = bI (!decide ((sdN gt tn (p9 + 1)).1 = 0)) ∧ u_108.1 = (sdN gt tn (p9 + 1)).1 ∧ u_108.2 = (sdN gt tn (p9 + 1)).2 := hq
          have hr_108 : r_108 = bI (!decide ((sdN gt tn (p9 + 1)).1 = 0)) := hq_108.1
          subst hr_108
          have hP : va_P D vwCl (oX9 mo zs zv vn zl zk zt (nI tn) vh zg zi zw vg zo ze vc vr vt vo (bI vm) (nI u_108.2) (gt p9) u_108.1 vd vq zd vz :: aI cI zt 60 gt :: X) H := pm_P hP 2 [0, 1] rfl
          have hD : va_D A (oX9 mo zs zv vn zl zk zt (nI tn) vh zg zi zw vg zo ze vc vr vt vo (bI vm) (nI u_108.2) (gt p9) u_108.1 vd vq zd vz :: aI cI zt 60 gt :: X) := pm_D hD 2 [0, 1] rfl rfl rfl
          have l108 : u_108.2 ≤ tn + 1 := by rw [hq_108.2.2]; exact sd_le (by omega)
          refine lv_if_eq (tgt := 135) hx hb dX9_readOrder_111 (by decide) (fun c_111 => ?_) (fun c_111 => ?_)
          · have s0 : (sdN gt tn (p9 + 1)).1 = 0 := of_decide_eq_true (by have q := bf_c c_111; revert q; cases decide ((sdN gt tn (p9 + 1)).1 = 0) <;> simp)
            refine lv_iconst (v := 0) hx hb dX9_readOrder_135 (by decide) ?_
            exact W.zret (v := 0) (ty := .boolean) hx hb hr (rfl) (fun t9 ht9 hW9 => ⟨⟨0, (false, gt p9, u_108.1, vd, u_108.2), rfl, ⟨rfl, by rw [show gt p9 = 108 from c_52]; exact RdM.leap hnp c_52 hq_108.2.1 (Or.inl ⟨hq_108.2.1.trans s0, rfl, hq_108.2.2⟩)⟩, by rw [ht9]; exact hP, hD⟩, hS.F ht9⟩) hS.2.2 dX9_readOrder_136
          · have s1 : ¬ (sdN gt tn (p9 + 1)).1 = 0 := fun q => by have := bt_c c_111; rw [decide_eq_true q] at this; cases this
            refine lv_aload_n hx hb dX9_readOrder_114 rfl (lv_at hl 0 rfl) ?_
            refine va_get (D := D) (ci := 9) (v := .int (gt p9)) (C := RX9) (T := TX9) (N := 26) hx hb hts hiX9 hown hK hP 0 rfl rfl 20 (by decide) (hts (.fieldLink RX9 161 "LedgeLeapsModel" "letter" "I") (List.mem_of_getElem? (i := 4) rfl)) (fun _ h9 => h9) rfl dX9_readOrder_115 ?_
            refine lv_bipush (v := 119) hx hb dX9_readOrder_118 (by decide) ?_
            have c_120 : ¬ ((gt p9) : Int32) = 119 := c_43
            refine lv_icmp_eq (tgt := 131) hx hb dX9_readOrder_120 (by decide) (fun q => absurd q c_120) (fun _ => ?_)
            refine lv_aload_n hx hb dX9_readOrder_123 rfl (lv_at hl 0 rfl) ?_
            refine lv_iconst (v := 3) hx hb dX9_readOrder_124 (by decide) ?_
            refine cV_i CF hK hN hA hS (cut_of 2 [0, 1] hP hD rfl rfl rfl) (n_readDigit l D cI cZ cW cJ A (X) mo zs zv zl zk zt zg zi zw zo ze zd vn vh vg vc vr vt vo (gt p9) u_108.1 vd vq vm vz tn u_108.2 gt 3 htn l108) (cwV 1 hts gX9_readOrder_X9_readDigit rfl rfl rfl (by decide +kernel) ⟨Nat.le_of_ble_eq_true rfl, Nat.le_of_ble_eq_true rfl⟩) (As := [.int 3]) (rest := []) (ci := 9) (q0 := 0) rfl rfl rfl hl.1 rfl (Nat.le_of_ble_eq_true rfl) dX9_readOrder_125 ⟨Nat.le_of_ble_eq_true rfl, Nat.le_of_ble_eq_true rfl⟩ (fun r_125 u_125 H locs hq hP hD hS => ?_)
            have hq_125 : r_125 = bI (isN gt tn u_108.2 48 (48 + 3)) ∧ ((isN gt tn u_108.2 48 (48 + 3)) = true → u_125.1 = gt u_108.2 - 48 ∧ u_125.2 = u_108.2 + 1) ∧ ((isN gt tn u_108.2 48 (48 + 3)) = false → u_125.2 = u_108.2) := hq
            have hr_125 : r_125 = bI (isN gt tn u_108.2 48 (48 + 3)) := hq_125.1
            subst hr_125
            have hP : va_P D vwCl (oX9 mo zs zv vn zl zk zt (nI tn) vh zg zi zw vg zo ze vc vr vt vo (bI vm) (nI u_125.2) (gt p9) u_108.1 u_125.1 vq zd vz :: aI cI zt 60 gt :: X) H := pm_P hP 2 [0, 1] rfl
            have hD : va_D A (oX9 mo zs zv vn zl zk zt (nI tn) vh zg zi zw vg zo ze vc vr vt vo (bI vm) (nI u_125.2) (gt p9) u_108.1 u_125.1 vq zd vz :: aI cI zt 60 gt :: X) := pm_D hD 2 [0, 1] rfl rfl rfl
            refine lv_if_eq (tgt := 135) hx hb dX9_readOrder_128 (by decide) (fun c_128 => ?_) (fun c_128 => ?_)
            · refine lv_iconst (v := 0) hx hb dX9_readOrder_135 (by decide) ?_
              exact W.zret (v := 0) (ty := .boolean) hx hb hr (rfl) (fun t9 ht9 hW9 => ⟨⟨0, (false, gt p9, u_108.1, u_125.1, u_125.2), rfl, ⟨rfl, by rw [show gt p9 = 108 from c_52]; exact RdM.leap hnp c_52 hq_108.2.1 (Or.inr (Or.inl ⟨by rw [hq_108.2.1]; exact s1, by rw [← hq_108.2.2]; exact bf_c c_128, rfl, (hq_125.2.2 (bf_c c_128)).trans hq_108.2.2⟩))⟩, by rw [ht9]; exact hP, hD⟩, hS.F ht9⟩) hS.2.2 dX9_readOrder_136
            · refine lv_iconst (v := 1) hx hb dX9_readOrder_131 (by decide) ?_
              refine lv_goto (tgt := 136) hx hb dX9_readOrder_132 (by decide) ?_
              exact W.zret (v := 1) (ty := .boolean) hx hb hr (rfl) (fun t9 ht9 hW9 => ⟨⟨1, (true, gt p9, u_108.1, u_125.1, u_125.2), rfl, ⟨rfl, by rw [show gt p9 = 108 from c_52]; exact RdM.leap hnp c_52 hq_108.2.1 (Or.inr (Or.inr ⟨by rw [hq_108.2.1]; exact s1, by rw [← hq_108.2.2]; exact bt_c c_128, rfl, (hq_125.2.1 (bt_c c_128)).2.trans (by rw [hq_108.2.2]), (hq_125.2.1 (bt_c c_128)).1.trans (by rw [hq_108.2.2])⟩))⟩, by rw [ht9]; exact hP, hD⟩, hS.F ht9⟩) hS.2.2 dX9_readOrder_136
        · refine lv_iconst (v := 0) hx hb dX9_readOrder_55 (by decide) ?_
          exact W.zret (v := 0) (ty := .boolean) hx hb hr (rfl) (fun t9 ht9 hW9 => ⟨⟨0, (false, gt p9, vb, vd, p9), rfl, ⟨rfl, RdM.other hnp c_34 c_43 c_52⟩, by rw [ht9]; exact hP, hD⟩, hS.F ht9⟩) hS.2.2 dX9_readOrder_56
set_option maxHeartbeats 4000000 in
set_option maxRecDepth 100000 in
theorem n_readText0 (l : Launch) (D : va_G) (cI cZ cW cJ : ClassId) (A : Nat → Prop) (X : va_W) (mo zs zv zl zk zt zg zi zw zo ze zd : Nat) (vn vh vg vc vr vt vo vp va vb vd vq : Int32) (vm : Bool) (vz : Int64) (tn : Nat) (gt : Nat → Int32) (htn : tn ≤ 60) : Met l yX9_readText wsX9_readText ({ frames := 5, cells := 0, slots := 0, locals := 106 }) (va_Pc [.ref mo, .int 0] (wd D (tyL cI cZ cW cJ) A (oX9 mo zs zv vn zl zk zt (nI tn) vh zg zi zw vg zo ze vc vr vt vo (bI vm) vp va vb vd vq zd vz :: aI cI zt 60 gt :: X))) (va_Qi (fun (r : Int32) (u : Int32 × Int32 × Int32 × Nat × Int32) => r = bI (mTxt gt tn (tn + 2) 0).1 ∧ u.2.2.2.1 = (mTxt gt tn (tn + 2) 0).2) (fun (u : Int32 × Int32 × Int32 × Nat × Int32) t => wq D A (oX9 mo zs zv vn zl zk zt (nI tn) vh zg zi zw vg zo ze vc vr vt vo (bI vm) (nI u.2.2.2.1) u.1 u.2.1 u.2.2.1 u.2.2.2.2 zd vz :: aI cI zt 60 gt :: X) t) A) 0 0 A := by
  refine Met.ofW (cc := cX9_readText) (maxL := 3) (ret := (some .boolean)) (by decide) rfl ?_
  intro p e s m args below meth c s₁ B hml hv
  obtain ⟨rfl, hsz9, hP, hK, hD, hN⟩ := hv
  have hx := B.exec
  have hb := B.bytes
  have hr := B.returns
  have hts := atoms_spec (ws := wsX9_readText) B.pre
  have hown : s.vm.findClass RX9 = some m.cls := findClass_of_methodNamed B.named
  have hlocks := B.notSynchronized
  have CF : CallFix p m c cX9_readText 3 s _ wsX9_readText RX9 := ⟨hx, hb, hml, hown, hts⟩
  have hA : ∀ q : Nat, s.heap.size ≤ q → A q := hsz9
  have hS : va_S A s.heap s.heap [] := va_S.rf
  have hiX9 : ∀ w ∈ u_ws RX9 TX9 26, w ∈ wsX9_readText := fun _ h => List.mem_cons_of_mem _ (List.mem_append_right _ (h))
  have hl := lv_entry ([.ref mo, .int 0]) (n := 3) (Nat.le_of_ble_eq_true rfl)
  rw [lg_entry_eq]
  generalize (lg_sl ([.ref mo, .int 0]) ++ List.replicate (3 - (lg_sl ([.ref mo, .int 0])).length) Slot.unset).toArray = ls at hl ⊢
  have hl : lv_has ls 3 [(0, .ref mo), (1, .int 0)] := hl
  show W p l e ({ frames := 5, cells := 0, slots := 0, locals := 106 } : Room) s m (([.ref mo, .int 0] : List Value).toArray) below meth c s.heap [] 0 0 (MQ below (va_Qi (fun (r : Int32) (u : Int32 × Int32 × Int32 × Nat × Int32) => r = bI (mTxt gt tn (tn + 2) 0).1 ∧ u.2.2.2.1 = (mTxt gt tn (tn + 2) 0).2) (fun (u : Int32 × Int32 × Int32 × Nat × Int32) t => wq D A (oX9 mo zs zv vn zl zk zt (nI tn) vh zg zi zw vg zo ze vc vr vt vo (bI vm) (nI u.2.2.2.1) u.1 u.2.1 u.2.2.1 u.2.2.2.2 zd vz :: aI cI zt 60 gt :: X) t) A) (([.ref mo, .int 0] : List Value).toArray) s 0 0 A) (F0 m 0 ls [])
  refine lv_aload_n hx hb dX9_readText_0 rfl (lv_at hl 0 rfl) ?_
  refine lv_iconst (v := 0) hx hb dX9_readText_1 (by decide) ?_
  refine va_put (D := D) (ci := 9) (v := .int 0) (ty := .int) (C := RX9) (T := TX9) (N := 26) hx hb hts hiX9 tyX9 tyX9_ok nmX9 hown hK hP hD hS 0 rfl rfl 19 (by decide) (hts (.fieldLink RX9 146 "LedgeLeapsModel" "place" "I") (List.mem_of_getElem? (i := 1) rfl)) (fun _ h9 => h9) rfl (by decide +kernel) rfl rfl (Nat.le_of_ble_eq_true rfl) dX9_readText_2 (fun H locs hP hD hS => ?_)
  have hP : va_P D vwCl (oX9 mo zs zv vn zl zk zt (nI tn) vh zg zi zw vg zo ze vc vr vt vo (bI vm) 0 va vb vd vq zd vz :: aI cI zt 60 gt :: X) H := hP
  have hD : va_D A (oX9 mo zs zv vn zl zk zt (nI tn) vh zg zi zw vg zo ze vc vr vt vo (bI vm) 0 va vb vd vq zd vz :: aI cI zt 60 gt :: X) := hD
  refine lv_aload_n hx hb dX9_readText_5 rfl (lv_at hl 0 rfl) ?_
  refine lv_iconst (v := 0) hx hb dX9_readText_6 (by decide) ?_
  refine va_put (D := D) (ci := 9) (v := .int 0) (ty := .int) (C := RX9) (T := TX9) (N := 26) hx hb hts hiX9 tyX9 tyX9_ok nmX9 hown hK hP hD hS 0 rfl rfl 23 (by decide) (hts (.fieldLink RX9 174 "LedgeLeapsModel" "done" "I") (List.mem_of_getElem? (i := 2) rfl)) (fun _ h9 => h9) rfl (by decide +kernel) rfl rfl (Nat.le_of_ble_eq_true rfl) dX9_readText_7 (fun H locs hP hD hS => ?_)
  have hP : va_P D vwCl (oX9 mo zs zv vn zl zk zt (nI tn) vh zg zi zw vg zo ze vc vr vt vo (bI vm) 0 va vb vd 0 zd vz :: aI cI zt 60 gt :: X) H := hP
  have hD : va_D A (oX9 mo zs zv vn zl zk zt (nI tn) vh zg zi zw vg zo ze vc vr vt vo (bI vm) 0 va vb vd 0 zd vz :: aI cI zt 60 gt :: X) := hD
  refine lv_aload_n hx hb dX9_readText_10 rfl (lv_at hl 0 rfl) ?_
  refine cV_i CF hK hN hA hS (cut_of 2 [0, 1] hP hD rfl rfl rfl) (n_readOrder l D cI cZ cW cJ A (X) mo zs zv zl zk zt zg zi zw zo ze zd vn vh vg vc vr vt vo va vb vd 0 vm vz tn 0 gt htn (Nat.zero_le _)) (cwV 0 hts gX9_readText_X9_readOrder rfl rfl rfl (by decide +kernel) ⟨Nat.le_of_ble_eq_true rfl, Nat.le_of_ble_eq_true rfl⟩) (As := []) (rest := []) (ci := 9) (q0 := 0) rfl rfl rfl hl.1 rfl (Nat.le_of_ble_eq_true rfl) dX9_readText_11 ⟨Nat.le_of_ble_eq_true rfl, Nat.le_of_ble_eq_true rfl⟩ (fun r_11 u_11 H locs hq hP hD hS => ?_)
  have hq_11 : r_11 = bI u_11.1 ∧ RdM gt tn 0 u_11.1 u_11.2.1 u_11.2.2.1 u_11.2.2.2.1 u_11.2.2.2.2 := hq
  have hP : va_P D vwCl (oX9 mo zs zv vn zl zk zt (nI tn) vh zg zi zw vg zo ze vc vr vt vo (bI vm) (nI u_11.2.2.2.2) u_11.2.1 u_11.2.2.1 u_11.2.2.2.1 0 zd vz :: aI cI zt 60 gt :: X) H := pm_P hP 2 [0, 1] rfl
  have hD : va_D A (oX9 mo zs zv vn zl zk zt (nI tn) vh zg zi zw vg zo ze vc vr vt vo (bI vm) (nI u_11.2.2.2.2) u_11.2.1 u_11.2.2.1 u_11.2.2.2.1 0 zd vz :: aI cI zt 60 gt :: X) := pm_D hD 2 [0, 1] rfl rfl rfl
  refine top_i (y := (bI u_11.1)) hq_11.1 ?_
  refine lv_istore_n (lv' := [(2, .int (bI u_11.1)), (0, .ref mo), (1, .int 0)]) hx hb dX9_readText_14 rfl hl (by decide) rfl (fun ls hl => ?_)
  have loop_15 : ∀ (nfu : Nat) (g9 : Bool) (q9 : Nat) (l9 o9 y9 d9 : Int32) (hn_15 : 2 * (tn + 1 - q9) + (if g9 = true then 1 else 0) < nfu) (hJ : TxM gt tn g9 q9) (H : Heap) (locs : List Loc) (hP : va_P D vwCl (oX9 mo zs zv vn zl zk zt (nI tn) vh zg zi zw vg zo ze vc vr vt vo (bI vm) (nI q9) l9 o9 y9 d9 zd vz :: aI cI zt 60 gt :: X) H) (hD : va_D A (oX9 mo zs zv vn zl zk zt (nI tn) vh zg zi zw vg zo ze vc vr vt vo (bI vm) (nI q9) l9 o9 y9 d9 zd vz :: aI cI zt 60 gt :: X)) (hS : va_S A s.heap H locs) (ls : Array Slot) (hl : lv_has ls 3 [(2, .int (bI g9)), (0, .ref mo), (1, .int 0)]), W p l e ({ frames := 5, cells := 0, slots := 0, locals := 106 } : Room) s m (([.ref mo, .int 0] : List Value).toArray) below meth c H locs 0 0 (MQ below (va_Qi (fun (r : Int32) (u : Int32 × Int32 × Int32 × Nat × Int32) => r = bI (mTxt gt tn (tn + 2) 0).1 ∧ u.2.2.2.1 = (mTxt gt tn (tn + 2) 0).2) (fun (u : Int32 × Int32 × Int32 × Nat × Int32) t => wq D A (oX9 mo zs zv vn zl zk zt (nI tn) vh zg zi zw vg zo ze vc vr vt vo (bI vm) (nI u.2.2.2.1) u.1 u.2.1 u.2.2.1 u.2.2.2.2 zd vz :: aI cI zt 60 gt :: X) t) A) (([.ref mo, .int 0] : List Value).toArray) s 0 0 A) (F0 m 15 ls []) := by
    intro nfu
    induction nfu with
    | zero => intro g9 q9 l9 o9 y9 d9 hn_15; exact absurd hn_15 (Nat.not_lt_zero _)
    | succ nfu ih_15 =>
      intro g9 q9 l9 o9 y9 d9 hn_15 hJ H locs hP hD hS ls hl
      refine lv_iload_n hx hb dX9_readText_15 rfl (lv_at hl 0 rfl) ?_
      refine lv_if_eq (tgt := 81) hx hb dX9_readText_16 (by decide) (fun c_16 => ?_) (fun c_16 => ?_)
      · refine lv_iconst (v := 0) hx hb dX9_readText_81 (by decide) ?_
        exact W.zret (v := 0) (ty := .boolean) hx hb hr (rfl) (fun t9 ht9 hW9 => ⟨⟨0, (l9, o9, y9, q9, d9), rfl, by rw [TxM.bad (by rw [← bf_c c_16]; exact hJ)]; exact ⟨rfl, rfl⟩, by rw [ht9]; exact hP, hD⟩, hS.F ht9⟩) hS.2.2 dX9_readText_82
      · have hgt : g9 = true := bt_c c_16
        have hms := hn_15
        rw [if_pos hgt] at hms
        have hJ1 : TxM gt tn true q9 := by rw [← hgt]; exact hJ
        have hql := hJ1.le
        refine lv_iload_n hx hb dX9_readText_19 rfl (lv_at hl 2 rfl) ?_
        have c_20 : (0 : Int32) = 0 := by decide
        refine lv_if_eq (tgt := 33) hx hb dX9_readText_20 (by decide) (fun _ => ?_) (fun q => absurd c_20 q)
        refine lv_aload_n hx hb dX9_readText_33 rfl (lv_at hl 1 rfl) ?_
        refine lv_dup hx hb dX9_readText_34 rfl ?_
        refine va_get (D := D) (ci := 9) (v := .int d9) (C := RX9) (T := TX9) (N := 26) hx hb hts hiX9 hown hK hP 0 rfl rfl 23 (by decide) (hts (.fieldLink RX9 174 "LedgeLeapsModel" "done" "I") (List.mem_of_getElem? (i := 2) rfl)) (fun _ h9 => h9) rfl dX9_readText_35 ?_
        refine lv_iconst (v := 1) hx hb dX9_readText_38 (by decide) ?_
        refine lv_iadd hx hb dX9_readText_39 ?_
        refine va_put (D := D) (ci := 9) (v := .int (d9 + 1)) (ty := .int) (C := RX9) (T := TX9) (N := 26) hx hb hts hiX9 tyX9 tyX9_ok nmX9 hown hK hP hD hS 0 rfl rfl 23 (by decide) (hts (.fieldLink RX9 174 "LedgeLeapsModel" "done" "I") (List.mem_of_getElem? (i := 2) rfl)) (fun _ h9 => h9) rfl (by decide +kernel) rfl rfl (Nat.le_of_ble_eq_true rfl) dX9_readText_40 (fun H locs hP hD hS => ?_)
        have hP : va_P D vwCl (oX9 mo zs zv vn zl zk zt (nI tn) vh zg zi zw vg zo ze vc vr vt vo (bI vm) (nI q9) l9 o9 y9 (d9 + 1) zd vz :: aI cI zt 60 gt :: X) H := hP
        have hD : va_D A (oX9 mo zs zv vn zl zk zt (nI tn) vh zg zi zw vg zo ze vc vr vt vo (bI vm) (nI q9) l9 o9 y9 (d9 + 1) zd vz :: aI cI zt 60 gt :: X) := hD
        refine lv_aload_n hx hb dX9_readText_43 rfl (lv_at hl 1 rfl) ?_
        refine va_get (D := D) (ci := 9) (v := .int (nI q9)) (C := RX9) (T := TX9) (N := 26) hx hb hts hiX9 hown hK hP 0 rfl rfl 19 (by decide) (hts (.fieldLink RX9 146 "LedgeLeapsModel" "place" "I") (List.mem_of_getElem? (i := 1) rfl)) (fun _ h9 => h9) rfl dX9_readText_44 ?_
        refine lv_aload_n hx hb dX9_readText_47 rfl (lv_at hl 1 rfl) ?_
        refine va_get (D := D) (ci := 9) (v := .int (nI tn)) (C := RX9) (T := TX9) (N := 26) hx hb hts hiX9 hown hK hP 0 rfl rfl 6 (by decide) (hts (.fieldLink RX9 143 "LedgeLeapsModel" "length" "I") (List.mem_of_getElem? (i := 3) rfl)) (fun _ h9 => h9) rfl dX9_readText_48 ?_
        refine lv_icmp_ne (tgt := 56) hx hb dX9_readText_51 (by decide) (fun c_51 => ?_) (fun c_51 => ?_)
        · have hqn : ¬ q9 = tn := fun q => c_51 (by rw [q])
          refine lv_aload_n hx hb dX9_readText_56 rfl (lv_at hl 1 rfl) ?_
          refine lv_bipush (v := 59) hx hb dX9_readText_57 (by decide) ?_
          refine cV_i CF hK hN hA hS (cut_of 2 [0, 1] hP hD rfl rfl rfl) (n_takes l D cI cZ cW cJ A (X) mo zs zv zl zk zt zg zi zw zo ze zd vn vh vg vc vr vt vo l9 o9 y9 (d9 + 1) vm vz tn q9 gt 59 htn (by omega)) (cwV 1 hts gX9_readText_X9_takes rfl rfl rfl (by decide +kernel) ⟨Nat.le_of_ble_eq_true rfl, Nat.le_of_ble_eq_true rfl⟩) (As := [.int 59]) (rest := []) (ci := 9) (q0 := 0) rfl rfl rfl hl.1 rfl (Nat.le_of_ble_eq_true rfl) dX9_readText_59 ⟨Nat.le_of_ble_eq_true rfl, Nat.le_of_ble_eq_true rfl⟩ (fun r_59 u_59 H locs hq hP hD hS => ?_)
          have hq_59 : r_59 = bI (isN gt tn q9 59 59) ∧ (isN gt tn q9 59 59 = true → u_59 = q9 + 1 ∧ q9 < tn) ∧ (isN gt tn q9 59 59 = false → u_59 = q9) := hq
          have hr_59 : r_59 = bI (isN gt tn q9 59 59) := hq_59.1
          subst hr_59
          have hP : va_P D vwCl (oX9 mo zs zv vn zl zk zt (nI tn) vh zg zi zw vg zo ze vc vr vt vo (bI vm) (nI u_59) l9 o9 y9 (d9 + 1) zd vz :: aI cI zt 60 gt :: X) H := pm_P hP 2 [0, 1] rfl
          have hD : va_D A (oX9 mo zs zv vn zl zk zt (nI tn) vh zg zi zw vg zo ze vc vr vt vo (bI vm) (nI u_59) l9 o9 y9 (d9 + 1) zd vz :: aI cI zt 60 gt :: X) := pm_D hD 2 [0, 1] rfl rfl rfl
          refine lv_if_eq (tgt := 76) hx hb dX9_readText_62 (by decide) (fun c_62 => ?_) (fun c_62 => ?_)
          · refine lv_iconst (v := 0) hx hb dX9_readText_76 (by decide) ?_
            refine lv_istore_n (lv' := [(2, .int 0), (0, .ref mo), (1, .int 0)]) hx hb dX9_readText_77 rfl hl (by decide) rfl (fun ls hl => ?_)
            refine lv_goto (tgt := 15) hx hb dX9_readText_78 (by decide) ?_
            exact ih_15 false u_59 l9 o9 y9 (d9 + 1) (by rw [hq_59.2.2 (bf_c c_62), if_neg (by decide)]; omega) (by rw [hq_59.2.2 (bf_c c_62)]; exact TxM.sep hJ1 hqn (bf_c c_62)) _ _ (hP) (hD) hS _ (lv_sub hl [0, 1, 2] rfl)
          · refine lv_aload_n hx hb dX9_readText_65 rfl (lv_at hl 1 rfl) ?_
            refine cV_i CF hK hN hA hS (cut_of 2 [0, 1] hP hD rfl rfl rfl) (n_readOrder l D cI cZ cW cJ A (X) mo zs zv zl zk zt zg zi zw zo ze zd vn vh vg vc vr vt vo l9 o9 y9 (d9 + 1) vm vz tn u_59 gt htn (by rw [(hq_59.2.1 (bt_c c_62)).1]; omega)) (cwV 0 hts gX9_readText_X9_readOrder rfl rfl rfl (by decide +kernel) ⟨Nat.le_of_ble_eq_true rfl, Nat.le_of_ble_eq_true rfl⟩) (As := []) (rest := []) (ci := 9) (q0 := 0) rfl rfl rfl hl.1 rfl (Nat.le_of_ble_eq_true rfl) dX9_readText_66 ⟨Nat.le_of_ble_eq_true rfl, Nat.le_of_ble_eq_true rfl⟩ (fun r_66 u_66 H locs hq hP hD hS => ?_)
            have hq_66 : r_66 = bI u_66.1 ∧ RdM gt tn u_59 u_66.1 u_66.2.1 u_66.2.2.1 u_66.2.2.2.1 u_66.2.2.2.2 := hq
            have hP : va_P D vwCl (oX9 mo zs zv vn zl zk zt (nI tn) vh zg zi zw vg zo ze vc vr vt vo (bI vm) (nI u_66.2.2.2.2) u_66.2.1 u_66.2.2.1 u_66.2.2.2.1 (d9 + 1) zd vz :: aI cI zt 60 gt :: X) H := pm_P hP 2 [0, 1] rfl
            have hD : va_D A (oX9 mo zs zv vn zl zk zt (nI tn) vh zg zi zw vg zo ze vc vr vt vo (bI vm) (nI u_66.2.2.2.2) u_66.2.1 u_66.2.2.1 u_66.2.2.2.1 (d9 + 1) zd vz :: aI cI zt 60 gt :: X) := pm_D hD 2 [0, 1] rfl rfl rfl
            refine top_i (y := (bI u_66.1)) hq_66.1 ?_
            have hrd := hq_66.2
            rw [(hq_59.2.1 (bt_c c_62)).1] at hrd
            refine lv_if_eq (tgt := 76) hx hb dX9_readText_69 (by decide) (fun c_69 => ?_) (fun c_69 => ?_)
            · refine lv_iconst (v := 0) hx hb dX9_readText_76 (by decide) ?_
              refine lv_istore_n (lv' := [(2, .int 0), (0, .ref mo), (1, .int 0)]) hx hb dX9_readText_77 rfl hl (by decide) rfl (fun ls hl => ?_)
              refine lv_goto (tgt := 15) hx hb dX9_readText_78 (by decide) ?_
              exact ih_15 false u_66.2.2.2.2 u_66.2.1 u_66.2.2.1 u_66.2.2.2.1 (d9 + 1) (by have h := hrd.le (by omega); rw [if_neg (by decide)]; omega) (by have h := hrd; rw [bf_c c_69] at h; exact TxM.next hJ1 hqn (bt_c c_62) h) _ _ (hP) (hD) hS _ (lv_sub hl [0, 1, 2] rfl)
            · refine lv_iconst (v := 1) hx hb dX9_readText_72 (by decide) ?_
              refine lv_goto (tgt := 77) hx hb dX9_readText_73 (by decide) ?_
              refine lv_istore_n (lv' := [(2, .int 1), (0, .ref mo), (1, .int 0)]) hx hb dX9_readText_77 rfl hl (by decide) rfl (fun ls hl => ?_)
              refine lv_goto (tgt := 15) hx hb dX9_readText_78 (by decide) ?_
              exact ih_15 true u_66.2.2.2.2 u_66.2.1 u_66.2.2.1 u_66.2.2.2.1 (d9 + 1) (by have h := hrd.le (by omega); rw [if_pos rfl]; omega) (by have h := hrd; rw [bt_c c_69] at h; exact TxM.next hJ1 hqn (bt_c c_62) h) _ _ (hP) (hD) hS _ (lv_sub hl [0, 1, 2] rfl)
        · refine lv_iconst (v := 1) hx hb dX9_readText_54 (by decide) ?_
          have eq9 : q9 = tn := nI_inj (by omega) (by omega) c_51
          exact W.zret (v := 1) (ty := .boolean) hx hb hr (rfl) (fun t9 ht9 hW9 => ⟨⟨1, (l9, o9, y9, q9, d9 + 1), rfl, by rw [eq9] at hJ1; rw [TxM.all hJ1]; exact ⟨rfl, eq9⟩, by rw [ht9]; exact hP, hD⟩, hS.F ht9⟩) hS.2.2 dX9_readText_55
  exact loop_15 _ u_11.1 u_11.2.2.2.2 u_11.2.1 u_11.2.2.1 u_11.2.2.2.1 0 (Nat.lt_succ_self _) (TxM.start hq_11.2) _ _ hP hD hS _ (lv_sub hl [0, 1, 2] rfl)
set_option maxHeartbeats 4000000 in
set_option maxRecDepth 100000 in
theorem n_readText1 (l : Launch) (D : va_G) (cI cZ cW cJ : ClassId) (A : Nat → Prop) (X : va_W) (mo zs zv zl zk zt zg zi zw zo ze zd : Nat) (vn vh vg vc vr vt vo vp va vb vd vq : Int32) (vm : Bool) (vz : Int64) (tn : Nat) (gt gs : Nat → Int32) (S : KS) (htn : tn ≤ 60) (h8 : dfaE gt tn = 8) (hS0 : AbsM S gs) (hWf : Wf S) : Met l yX9_readText wsX9_readText ({ frames := 8, cells := 0, slots := 0, locals := 182 }) (va_Pc [.ref mo, .int 1] (wd D (tyL cI cZ cW cJ) A (oX9 mo zs zv vn zl zk zt (nI tn) vh zg zi zw vg zo ze vc vr vt vo (bI vm) vp va vb vd vq zd vz :: aI cI zt 60 gt :: aI cI zs 28 gs :: X))) (va_Qi (fun (r : Int32) (u : (Int32 × Int32 × Int32 × Nat × Int32) × (Int32 × Int32 × Int32 × Int32 × Bool) × (Nat → Int32)) => r = 1 ∧ u.1.2.2.2.2 = nI (runS gt tn S).2 ∧ AbsM (runS gt tn S).1 u.2.2) (fun (u : (Int32 × Int32 × Int32 × Nat × Int32) × (Int32 × Int32 × Int32 × Int32 × Bool) × (Nat → Int32)) t => wq D A (oX9 mo zs zv vn zl zk zt (nI tn) vh zg zi zw vg zo ze u.2.1.1 u.2.1.2.1 u.2.1.2.2.1 u.2.1.2.2.2.1 (bI u.2.1.2.2.2.2) (nI u.1.2.2.2.1) u.1.1 u.1.2.1 u.1.2.2.1 u.1.2.2.2.2 zd vz :: aI cI zt 60 gt :: aI cI zs 28 u.2.2 :: X) t) A) 0 0 A := by
  refine Met.ofW (cc := cX9_readText) (maxL := 3) (ret := (some .boolean)) (by decide) rfl ?_
  intro p e s m args below meth c s₁ B hml hv
  obtain ⟨rfl, hsz9, hP, hK, hD, hN⟩ := hv
  have hx := B.exec
  have hb := B.bytes
  have hr := B.returns
  have hts := atoms_spec (ws := wsX9_readText) B.pre
  have hown : s.vm.findClass RX9 = some m.cls := findClass_of_methodNamed B.named
  have hlocks := B.notSynchronized
  have CF : CallFix p m c cX9_readText 3 s _ wsX9_readText RX9 := ⟨hx, hb, hml, hown, hts⟩
  have hA : ∀ q : Nat, s.heap.size ≤ q → A q := hsz9
  have hS : va_S A s.heap s.heap [] := va_S.rf
  have hiX9 : ∀ w ∈ u_ws RX9 TX9 26, w ∈ wsX9_readText := fun _ h => List.mem_cons_of_mem _ (List.mem_append_right _ (h))
  have hl := lv_entry ([.ref mo, .int 1]) (n := 3) (Nat.le_of_ble_eq_true rfl)
  rw [lg_entry_eq]
  generalize (lg_sl ([.ref mo, .int 1]) ++ List.replicate (3 - (lg_sl ([.ref mo, .int 1])).length) Slot.unset).toArray = ls at hl ⊢
  have hl : lv_has ls 3 [(0, .ref mo), (1, .int 1)] := hl
  show W p l e ({ frames := 8, cells := 0, slots := 0, locals := 182 } : Room) s m (([.ref mo, .int 1] : List Value).toArray) below meth c s.heap [] 0 0 (MQ below (va_Qi (fun (r : Int32) (u : (Int32 × Int32 × Int32 × Nat × Int32) × (Int32 × Int32 × Int32 × Int32 × Bool) × (Nat → Int32)) => r = 1 ∧ u.1.2.2.2.2 = nI (runS gt tn S).2 ∧ AbsM (runS gt tn S).1 u.2.2) (fun (u : (Int32 × Int32 × Int32 × Nat × Int32) × (Int32 × Int32 × Int32 × Int32 × Bool) × (Nat → Int32)) t => wq D A (oX9 mo zs zv vn zl zk zt (nI tn) vh zg zi zw vg zo ze u.2.1.1 u.2.1.2.1 u.2.1.2.2.1 u.2.1.2.2.2.1 (bI u.2.1.2.2.2.2) (nI u.1.2.2.2.1) u.1.1 u.1.2.1 u.1.2.2.1 u.1.2.2.2.2 zd vz :: aI cI zt 60 gt :: aI cI zs 28 u.2.2 :: X) t) A) (([.ref mo, .int 1] : List Value).toArray) s 0 0 A) (F0 m 0 ls [])
  refine lv_aload_n hx hb dX9_readText_0 rfl (lv_at hl 0 rfl) ?_
  refine lv_iconst (v := 0) hx hb dX9_readText_1 (by decide) ?_
  refine va_put (D := D) (ci := 9) (v := .int 0) (ty := .int) (C := RX9) (T := TX9) (N := 26) hx hb hts hiX9 tyX9 tyX9_ok nmX9 hown hK hP hD hS 0 rfl rfl 19 (by decide) (hts (.fieldLink RX9 146 "LedgeLeapsModel" "place" "I") (List.mem_of_getElem? (i := 1) rfl)) (fun _ h9 => h9) rfl (by decide +kernel) rfl rfl (Nat.le_of_ble_eq_true rfl) dX9_readText_2 (fun H locs hP hD hS => ?_)
  have hP : va_P D vwCl (oX9 mo zs zv vn zl zk zt (nI tn) vh zg zi zw vg zo ze vc vr vt vo (bI vm) 0 va vb vd vq zd vz :: aI cI zt 60 gt :: aI cI zs 28 gs :: X) H := hP
  have hD : va_D A (oX9 mo zs zv vn zl zk zt (nI tn) vh zg zi zw vg zo ze vc vr vt vo (bI vm) 0 va vb vd vq zd vz :: aI cI zt 60 gt :: aI cI zs 28 gs :: X) := hD
  refine lv_aload_n hx hb dX9_readText_5 rfl (lv_at hl 0 rfl) ?_
  refine lv_iconst (v := 0) hx hb dX9_readText_6 (by decide) ?_
  refine va_put (D := D) (ci := 9) (v := .int 0) (ty := .int) (C := RX9) (T := TX9) (N := 26) hx hb hts hiX9 tyX9 tyX9_ok nmX9 hown hK hP hD hS 0 rfl rfl 23 (by decide) (hts (.fieldLink RX9 174 "LedgeLeapsModel" "done" "I") (List.mem_of_getElem? (i := 2) rfl)) (fun _ h9 => h9) rfl (by decide +kernel) rfl rfl (Nat.le_of_ble_eq_true rfl) dX9_readText_7 (fun H locs hP hD hS => ?_)
  have hP : va_P D vwCl (oX9 mo zs zv vn zl zk zt (nI tn) vh zg zi zw vg zo ze vc vr vt vo (bI vm) 0 va vb vd 0 zd vz :: aI cI zt 60 gt :: aI cI zs 28 gs :: X) H := hP
  have hD : va_D A (oX9 mo zs zv vn zl zk zt (nI tn) vh zg zi zw vg zo ze vc vr vt vo (bI vm) 0 va vb vd 0 zd vz :: aI cI zt 60 gt :: aI cI zs 28 gs :: X) := hD
  refine lv_aload_n hx hb dX9_readText_10 rfl (lv_at hl 0 rfl) ?_
  refine cV_i CF hK hN hA hS (cut_of 3 [0, 1, 2] hP hD rfl rfl rfl) (n_readOrder l D cI cZ cW cJ A (aI cI zs 28 gs :: X) mo zs zv zl zk zt zg zi zw zo ze zd vn vh vg vc vr vt vo va vb vd 0 vm vz tn 0 gt htn (Nat.zero_le _)) (cwV 0 hts gX9_readText_X9_readOrder rfl rfl rfl (by decide +kernel) ⟨Nat.le_of_ble_eq_true rfl, Nat.le_of_ble_eq_true rfl⟩) (As := []) (rest := []) (ci := 9) (q0 := 0) rfl rfl rfl hl.1 rfl (Nat.le_of_ble_eq_true rfl) dX9_readText_11 ⟨Nat.le_of_ble_eq_true rfl, Nat.le_of_ble_eq_true rfl⟩ (fun r_11 u_11 H locs hq hP hD hS => ?_)
  have hq_11 : r_11 = bI u_11.1 ∧ RdM gt tn 0 u_11.1 u_11.2.1 u_11.2.2.1 u_11.2.2.2.1 u_11.2.2.2.2 := hq
  have hP : va_P D vwCl (oX9 mo zs zv vn zl zk zt (nI tn) vh zg zi zw vg zo ze vc vr vt vo (bI vm) (nI u_11.2.2.2.2) u_11.2.1 u_11.2.2.1 u_11.2.2.2.1 0 zd vz :: aI cI zt 60 gt :: aI cI zs 28 gs :: X) H := pm_P hP 3 [0, 1, 2] rfl
  have hD : va_D A (oX9 mo zs zv vn zl zk zt (nI tn) vh zg zi zw vg zo ze vc vr vt vo (bI vm) (nI u_11.2.2.2.2) u_11.2.1 u_11.2.2.1 u_11.2.2.2.1 0 zd vz :: aI cI zt 60 gt :: aI cI zs 28 gs :: X) := pm_D hD 3 [0, 1, 2] rfl rfl rfl
  refine top_i (y := 1) (hq_11.1.trans (by rw [hq_11.2.1, (ord_at (dfa_pos h8) rfl h8).1]; rfl)) ?_
  refine lv_istore_n (lv' := [(2, .int 1), (0, .ref mo), (1, .int 1)]) hx hb dX9_readText_14 rfl hl (by decide) rfl (fun ls hl => ?_)
  have loop_15 : ∀ (nfu : Nat) (p9 q9 n9 : Nat) (l9 o9 y9 : Int32) (S9 : KS) (f9 : Nat → Int32) (x1 x2 x3 x4 : Int32) (b5 : Bool) (hn_15 : tn - p9 < nfu) (hpn : p9 < tn) (h09 : dfaE gt p9 = 0) (hR9 : RdM gt tn p9 true l9 o9 y9 q9) (hA9 : AbsM S9 f9) (hW9 : Wf S9) (hv9 : runK gt tn (tn + 2) p9 S9 n9 = (runS gt tn S)) (H : Heap) (locs : List Loc) (hP : va_P D vwCl (oX9 mo zs zv vn zl zk zt (nI tn) vh zg zi zw vg zo ze x1 x2 x3 x4 (bI b5) (nI q9) l9 o9 y9 (nI n9) zd vz :: aI cI zt 60 gt :: aI cI zs 28 f9 :: X) H) (hD : va_D A (oX9 mo zs zv vn zl zk zt (nI tn) vh zg zi zw vg zo ze x1 x2 x3 x4 (bI b5) (nI q9) l9 o9 y9 (nI n9) zd vz :: aI cI zt 60 gt :: aI cI zs 28 f9 :: X)) (hS : va_S A s.heap H locs) (ls : Array Slot) (hl : lv_has ls 3 [(2, .int 1), (0, .ref mo), (1, .int 1)]), W p l e ({ frames := 8, cells := 0, slots := 0, locals := 182 } : Room) s m (([.ref mo, .int 1] : List Value).toArray) below meth c H locs 0 0 (MQ below (va_Qi (fun (r : Int32) (u : (Int32 × Int32 × Int32 × Nat × Int32) × (Int32 × Int32 × Int32 × Int32 × Bool) × (Nat → Int32)) => r = 1 ∧ u.1.2.2.2.2 = nI (runS gt tn S).2 ∧ AbsM (runS gt tn S).1 u.2.2) (fun (u : (Int32 × Int32 × Int32 × Nat × Int32) × (Int32 × Int32 × Int32 × Int32 × Bool) × (Nat → Int32)) t => wq D A (oX9 mo zs zv vn zl zk zt (nI tn) vh zg zi zw vg zo ze u.2.1.1 u.2.1.2.1 u.2.1.2.2.1 u.2.1.2.2.2.1 (bI u.2.1.2.2.2.2) (nI u.1.2.2.2.1) u.1.1 u.1.2.1 u.1.2.2.1 u.1.2.2.2.2 zd vz :: aI cI zt 60 gt :: aI cI zs 28 u.2.2 :: X) t) A) (([.ref mo, .int 1] : List Value).toArray) s 0 0 A) (F0 m 15 ls []) := by
    intro nfu
    induction nfu with
    | zero => intro p9 q9 n9 l9 o9 y9 S9 f9 x1 x2 x3 x4 b5 hn_15; exact absurd hn_15 (Nat.not_lt_zero _)
    | succ nfu ih_15 =>
      intro p9 q9 n9 l9 o9 y9 S9 f9 x1 x2 x3 x4 b5 hn_15 hpn h09 hR9 hA9 hW9 hv9 H locs hP hD hS ls hl
      refine lv_iload_n hx hb dX9_readText_15 rfl (lv_at hl 0 rfl) ?_
      have c_16 : ¬ (1 : Int32) = 0 := by decide
      refine lv_if_eq (tgt := 81) hx hb dX9_readText_16 (by decide) (fun q => absurd q c_16) (fun _ => ?_)
      refine lv_iload_n hx hb dX9_readText_19 rfl (lv_at hl 2 rfl) ?_
      have c_20 : ¬ (1 : Int32) = 0 := by decide
      refine lv_if_eq (tgt := 33) hx hb dX9_readText_20 (by decide) (fun q => absurd q c_20) (fun _ => ?_)
      have ho1 : (mOrd gt tn p9).1 = true := hR9.1.symm
      obtain ⟨hO9, hK9⟩ := hR9.2.2 ho1
      have hmk := hK9 S9
      have hq9 : q9 = (mOrd gt tn p9).2.2 := hR9.2.1
      have hle := ord_le (Nat.le_of_lt hpn) ho1
      have ho2 := (ord_at hpn h09 h8).2
      rw [← hq9] at hle
      refine lv_aload_n hx hb dX9_readText_23 rfl (lv_at hl 1 rfl) ?_
      refine cV_i CF hK hN hA hS (cut_of 3 [0, 2, 1] hP hD rfl rfl rfl) (n_does l D cI cZ cW cJ A (aI cI zt 60 gt :: X) mo zs zv zl zk zt zg zi zw zo ze zd vn (nI tn) vh vg x1 x2 x3 x4 (nI q9) l9 o9 y9 (nI n9) b5 vz f9 S9 hA9 hW9 hO9) (cwV 0 hts gX9_readText_X9_does rfl rfl rfl (by decide +kernel) ⟨Nat.le_of_ble_eq_true rfl, Nat.le_of_ble_eq_true rfl⟩) (As := []) (rest := []) (ci := 9) (q0 := 0) rfl rfl rfl hl.1 rfl (Nat.le_of_ble_eq_true rfl) dX9_readText_24 ⟨Nat.le_of_ble_eq_true rfl, Nat.le_of_ble_eq_true rfl⟩ (fun r_24 u_24 H locs hq hP hD hS => ?_)
      have hq_24 : r_24 = (mK S9 (l9, o9, y9)).2 ∧ AbsM (mK S9 (l9, o9, y9)).1 u_24.2 := hq
      have hP : va_P D vwCl (oX9 mo zs zv vn zl zk zt (nI tn) vh zg zi zw vg zo ze u_24.1.1 u_24.1.2.1 u_24.1.2.2.1 u_24.1.2.2.2.1 (bI u_24.1.2.2.2.2) (nI q9) l9 o9 y9 (nI n9) zd vz :: aI cI zt 60 gt :: aI cI zs 28 u_24.2 :: X) H := pm_P hP 3 [0, 2, 1] rfl
      have hD : va_D A (oX9 mo zs zv vn zl zk zt (nI tn) vh zg zi zw vg zo ze u_24.1.1 u_24.1.2.1 u_24.1.2.2.1 u_24.1.2.2.2.1 (bI u_24.1.2.2.2.2) (nI q9) l9 o9 y9 (nI n9) zd vz :: aI cI zt 60 gt :: aI cI zs 28 u_24.2 :: X) := pm_D hD 3 [0, 2, 1] rfl rfl rfl
      refine lv_iconst (v := (-1)) hx hb dX9_readText_27 (by decide) ?_
      refine lv_icmp_ne (tgt := 33) hx hb dX9_readText_28 (by decide) (fun c_28 => ?_) (fun c_28 => ?_)
      · refine lv_aload_n hx hb dX9_readText_33 rfl (lv_at hl 1 rfl) ?_
        refine lv_dup hx hb dX9_readText_34 rfl ?_
        refine va_get (D := D) (ci := 9) (v := .int (nI n9)) (C := RX9) (T := TX9) (N := 26) hx hb hts hiX9 hown hK hP 0 rfl rfl 23 (by decide) (hts (.fieldLink RX9 174 "LedgeLeapsModel" "done" "I") (List.mem_of_getElem? (i := 2) rfl)) (fun _ h9 => h9) rfl dX9_readText_35 ?_
        refine lv_iconst (v := 1) hx hb dX9_readText_38 (by decide) ?_
        refine lv_iadd hx hb dX9_readText_39 ?_
        refine top_i (y := (nI (n9 + 1))) (nI_1 n9) ?_
        refine va_put (D := D) (ci := 9) (v := .int (nI (n9 + 1))) (ty := .int) (C := RX9) (T := TX9) (N := 26) hx hb hts hiX9 tyX9 tyX9_ok nmX9 hown hK hP hD hS 0 rfl rfl 23 (by decide) (hts (.fieldLink RX9 174 "LedgeLeapsModel" "done" "I") (List.mem_of_getElem? (i := 2) rfl)) (fun _ h9 => h9) rfl (by decide +kernel) rfl rfl (Nat.le_of_ble_eq_true rfl) dX9_readText_40 (fun H locs hP hD hS => ?_)
        have hP : va_P D vwCl (oX9 mo zs zv vn zl zk zt (nI tn) vh zg zi zw vg zo ze u_24.1.1 u_24.1.2.1 u_24.1.2.2.1 u_24.1.2.2.2.1 (bI u_24.1.2.2.2.2) (nI q9) l9 o9 y9 (nI (n9 + 1)) zd vz :: aI cI zt 60 gt :: aI cI zs 28 u_24.2 :: X) H := hP
        have hD : va_D A (oX9 mo zs zv vn zl zk zt (nI tn) vh zg zi zw vg zo ze u_24.1.1 u_24.1.2.1 u_24.1.2.2.1 u_24.1.2.2.2.1 (bI u_24.1.2.2.2.2) (nI q9) l9 o9 y9 (nI (n9 + 1)) zd vz :: aI cI zt 60 gt :: aI cI zs 28 u_24.2 :: X) := hD
        refine lv_aload_n hx hb dX9_readText_43 rfl (lv_at hl 1 rfl) ?_
        refine va_get (D := D) (ci := 9) (v := .int (nI q9)) (C := RX9) (T := TX9) (N := 26) hx hb hts hiX9 hown hK hP 0 rfl rfl 19 (by decide) (hts (.fieldLink RX9 146 "LedgeLeapsModel" "place" "I") (List.mem_of_getElem? (i := 1) rfl)) (fun _ h9 => h9) rfl dX9_readText_44 ?_
        refine lv_aload_n hx hb dX9_readText_47 rfl (lv_at hl 1 rfl) ?_
        refine va_get (D := D) (ci := 9) (v := .int (nI tn)) (C := RX9) (T := TX9) (N := 26) hx hb hts hiX9 hown hK hP 0 rfl rfl 6 (by decide) (hts (.fieldLink RX9 143 "LedgeLeapsModel" "length" "I") (List.mem_of_getElem? (i := 3) rfl)) (fun _ h9 => h9) rfl dX9_readText_48 ?_
        refine lv_icmp_ne (tgt := 56) hx hb dX9_readText_51 (by decide) (fun c_51 => ?_) (fun c_51 => ?_)
        · have hqn : ¬ q9 = tn := fun q => c_51 (by rw [q])
          obtain ⟨h59, hq1, hd1⟩ : gt q9 = 59 ∧ q9 + 1 < tn ∧ dfaE gt (q9 + 1) = 0 := by rw [← hq9] at ho2; exact ho2.resolve_left hqn
          have hs59 : isN gt tn q9 59 59 = true := by unfold isN; rw [decide_eq_true (show q9 < tn by omega), h59]; decide
          have hvn : runK gt tn (tn + 2) (q9 + 1) (mK S9 (l9, o9, y9)).1 (n9 + 1) = (runS gt tn S) := by have h := runK_next hpn ho1 (ord_at hpn h09 h8).2 (by rw [← hmk, ← hq_24.1]; exact c_28) hv9; rw [← hq9, ← hmk] at h; exact (h.resolve_right (fun z => by have := z.1; omega)).2.2
          refine lv_aload_n hx hb dX9_readText_56 rfl (lv_at hl 1 rfl) ?_
          refine lv_bipush (v := 59) hx hb dX9_readText_57 (by decide) ?_
          refine cV_i CF hK hN hA hS (cut_of 3 [0, 1, 2] hP hD rfl rfl rfl) (n_takes l D cI cZ cW cJ A (aI cI zs 28 u_24.2 :: X) mo zs zv zl zk zt zg zi zw zo ze zd vn vh vg u_24.1.1 u_24.1.2.1 u_24.1.2.2.1 u_24.1.2.2.2.1 l9 o9 y9 (nI (n9 + 1)) u_24.1.2.2.2.2 vz tn q9 gt 59 htn (by omega)) (cwV 1 hts gX9_readText_X9_takes rfl rfl rfl (by decide +kernel) ⟨Nat.le_of_ble_eq_true rfl, Nat.le_of_ble_eq_true rfl⟩) (As := [.int 59]) (rest := []) (ci := 9) (q0 := 0) rfl rfl rfl hl.1 rfl (Nat.le_of_ble_eq_true rfl) dX9_readText_59 ⟨Nat.le_of_ble_eq_true rfl, Nat.le_of_ble_eq_true rfl⟩ (fun r_59 u_59 H locs hq hP hD hS => ?_)
          have hq_59 : r_59 = bI (isN gt tn q9 59 59) ∧ (isN gt tn q9 59 59 = true → u_59 = q9 + 1 ∧ q9 < tn) ∧ (isN gt tn q9 59 59 = false → u_59 = q9) := hq
          have hr_59 : r_59 = bI (isN gt tn q9 59 59) := hq_59.1
          subst hr_59
          have hP : va_P D vwCl (oX9 mo zs zv vn zl zk zt (nI tn) vh zg zi zw vg zo ze u_24.1.1 u_24.1.2.1 u_24.1.2.2.1 u_24.1.2.2.2.1 (bI u_24.1.2.2.2.2) (nI u_59) l9 o9 y9 (nI (n9 + 1)) zd vz :: aI cI zt 60 gt :: aI cI zs 28 u_24.2 :: X) H := pm_P hP 3 [0, 1, 2] rfl
          have hD : va_D A (oX9 mo zs zv vn zl zk zt (nI tn) vh zg zi zw vg zo ze u_24.1.1 u_24.1.2.1 u_24.1.2.2.1 u_24.1.2.2.2.1 (bI u_24.1.2.2.2.2) (nI u_59) l9 o9 y9 (nI (n9 + 1)) zd vz :: aI cI zt 60 gt :: aI cI zs 28 u_24.2 :: X) := pm_D hD 3 [0, 1, 2] rfl rfl rfl
          have h59u := (hq_59.2.1 hs59).1
          have c_62 : ¬ ((bI (isN gt tn q9 59 59)) : Int32) = 0 := by rw [hs59]; decide
          refine lv_if_eq (tgt := 76) hx hb dX9_readText_62 (by decide) (fun q => absurd q c_62) (fun _ => ?_)
          refine lv_aload_n hx hb dX9_readText_65 rfl (lv_at hl 1 rfl) ?_
          refine cV_i CF hK hN hA hS (cut_of 3 [0, 1, 2] hP hD rfl rfl rfl) (n_readOrder l D cI cZ cW cJ A (aI cI zs 28 u_24.2 :: X) mo zs zv zl zk zt zg zi zw zo ze zd vn vh vg u_24.1.1 u_24.1.2.1 u_24.1.2.2.1 u_24.1.2.2.2.1 l9 o9 y9 (nI (n9 + 1)) u_24.1.2.2.2.2 vz tn u_59 gt htn (by rw [h59u]; omega)) (cwV 0 hts gX9_readText_X9_readOrder rfl rfl rfl (by decide +kernel) ⟨Nat.le_of_ble_eq_true rfl, Nat.le_of_ble_eq_true rfl⟩) (As := []) (rest := []) (ci := 9) (q0 := 0) rfl rfl rfl hl.1 rfl (Nat.le_of_ble_eq_true rfl) dX9_readText_66 ⟨Nat.le_of_ble_eq_true rfl, Nat.le_of_ble_eq_true rfl⟩ (fun r_66 u_66 H locs hq hP hD hS => ?_)
          have hq_66 : r_66 = bI u_66.1 ∧ RdM gt tn u_59 u_66.1 u_66.2.1 u_66.2.2.1 u_66.2.2.2.1 u_66.2.2.2.2 := hq
          have hP : va_P D vwCl (oX9 mo zs zv vn zl zk zt (nI tn) vh zg zi zw vg zo ze u_24.1.1 u_24.1.2.1 u_24.1.2.2.1 u_24.1.2.2.2.1 (bI u_24.1.2.2.2.2) (nI u_66.2.2.2.2) u_66.2.1 u_66.2.2.1 u_66.2.2.2.1 (nI (n9 + 1)) zd vz :: aI cI zt 60 gt :: aI cI zs 28 u_24.2 :: X) H := pm_P hP 3 [0, 1, 2] rfl
          have hD : va_D A (oX9 mo zs zv vn zl zk zt (nI tn) vh zg zi zw vg zo ze u_24.1.1 u_24.1.2.1 u_24.1.2.2.1 u_24.1.2.2.2.1 (bI u_24.1.2.2.2.2) (nI u_66.2.2.2.2) u_66.2.1 u_66.2.2.1 u_66.2.2.2.1 (nI (n9 + 1)) zd vz :: aI cI zt 60 gt :: aI cI zs 28 u_24.2 :: X) := pm_D hD 3 [0, 1, 2] rfl rfl rfl
          refine top_i (y := (bI u_66.1)) hq_66.1 ?_
          have hrd := hq_66.2
          rw [h59u] at hrd
          have h66 : u_66.1 = true := hrd.1.trans (ord_at hq1 hd1 h8).1
          rw [h66] at hrd
          have c_69 : ¬ ((bI u_66.1) : Int32) = 0 := by rw [h66]; decide
          refine lv_if_eq (tgt := 76) hx hb dX9_readText_69 (by decide) (fun q => absurd q c_69) (fun _ => ?_)
          refine lv_iconst (v := 1) hx hb dX9_readText_72 (by decide) ?_
          refine lv_goto (tgt := 77) hx hb dX9_readText_73 (by decide) ?_
          refine lv_istore_n (lv' := [(2, .int 1), (0, .ref mo), (1, .int 1)]) hx hb dX9_readText_77 rfl hl (by decide) rfl (fun ls hl => ?_)
          refine lv_goto (tgt := 15) hx hb dX9_readText_78 (by decide) ?_
          exact ih_15 (q9 + 1) u_66.2.2.2.2 (n9 + 1) u_66.2.1 u_66.2.2.1 u_66.2.2.2.1 ((mK S9 (l9, o9, y9)).1) u_24.2 u_24.1.1 u_24.1.2.1 u_24.1.2.2.1 u_24.1.2.2.2.1 u_24.1.2.2.2.2 (by omega) (hq1) (hd1) (hrd) (hq_24.2) (Wf_ord hW9 hO9) (hvn) _ _ (hP) (hD) hS _ (lv_sub hl [0, 1, 2] rfl)
        · refine lv_iconst (v := 1) hx hb dX9_readText_54 (by decide) ?_
          have eq9 : q9 = tn := nI_inj (by omega) (by omega) c_51
          exact W.zret (v := 1) (ty := .boolean) hx hb hr (rfl) (fun t9 ht9 hW9 => ⟨⟨1, ((l9, o9, y9, q9, nI (n9 + 1)), u_24), rfl, by have h := runK_next hpn ho1 (ord_at hpn h09 h8).2 (by rw [← hmk, ← hq_24.1]; exact c_28) hv9; rw [← hq9, ← hmk] at h; rw [show (runS gt tn S) = ((mK S9 (l9, o9, y9)).1, n9 + 1) from ((h.resolve_left (fun z => by have := z.1; omega)).2).symm]; exact ⟨rfl, rfl, hq_24.2⟩, by rw [ht9]; exact hP, hD⟩, hS.F ht9⟩) hS.2.2 dX9_readText_55
      · refine lv_iconst (v := 1) hx hb dX9_readText_31 (by decide) ?_
        exact W.zret (v := 1) (ty := .boolean) hx hb hr (rfl) (fun t9 ht9 hW9 => ⟨⟨1, ((l9, o9, y9, q9, nI n9), u_24), rfl, by have h := runK_stop ho1 (by rw [← hmk, ← hq_24.1]; exact c_28) hv9; rw [← hmk] at h; rw [show (runS gt tn S) = ((mK S9 (l9, o9, y9)).1, n9) from h.symm]; exact ⟨rfl, rfl, hq_24.2⟩, by rw [ht9]; exact hP, hD⟩, hS.F ht9⟩) hS.2.2 dX9_readText_32
  exact loop_15 _ 0 u_11.2.2.2.2 0 u_11.2.1 u_11.2.2.1 u_11.2.2.2.1 S gs vc vr vt vo vm (Nat.lt_succ_self _) (dfa_pos h8) (rfl) (by have h := hq_11.2; rw [h.1.trans (ord_at (dfa_pos h8) rfl h8).1] at h; exact h) (hS0) (hWf) (rfl) _ _ hP hD hS _ (lv_sub hl [0, 1, 2] rfl)
