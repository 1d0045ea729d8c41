set_option maxHeartbeats 4000000 in
set_option maxRecDepth 100000 in
theorem m_joined (l : Launch) (D : va_G) (cI cZ cW cJ : ClassId) (A : Nat → Prop) (X : va_W) (xh xv : Int64) : Met l yX8_joined wsX8_joined ({ frames := 0, cells := 0, slots := 0, locals := 0 }) (va_Pc [.long xh, .long xv] (wd D (tyL cI cZ cW cJ) A (X))) (va_Ql (fun (r : Int64) (u : Unit) => r = mxL xh xv) (fun (u : Unit) t => wq D A (X) t) A) 0 0 A := by
  refine Met.ofW (cc := cX8_joined) (maxL := 4) (ret := (some .long)) (by decide) rfl ?_
  intro p e s m args below meth c s₁ B hml hv
  obtain ⟨rfl, hsz9, hP, hK, hD, hN⟩ := hv
  have hx := B.exec
  have hb := B.bytes
  have hr := B.returns
  have hts := atoms_spec (ws := wsX8_joined) B.pre
  have hown : s.vm.findClass RX8 = some m.cls := findClass_of_methodNamed B.named
  have hlocks := B.notSynchronized
  have CF : CallFix p m c cX8_joined 4 s _ wsX8_joined RX8 := ⟨hx, hb, hml, hown, hts⟩
  have hA : ∀ q : Nat, s.heap.size ≤ q → A q := hsz9
  have hS : va_S A s.heap s.heap [] := va_S.rf
  have hl := lv_entry ([.long xh, .long xv]) (n := 4) (Nat.le_of_ble_eq_true rfl)
  rw [lg_entry_eq]
  generalize (lg_sl ([.long xh, .long xv]) ++ List.replicate (4 - (lg_sl ([.long xh, .long xv])).length) Slot.unset).toArray = ls at hl ⊢
  have hl : lv_has ls 4 [(0, .long xh), (2, .long xv)] := hl
  show W p l e ({ frames := 0, cells := 0, slots := 0, locals := 0 } : Room) s m (([.long xh, .long xv] : List Value).toArray) below meth c s.heap [] 0 0 (MQ below (va_Ql (fun (r : Int64) (u : Unit) => r = mxL xh xv) (fun (u : Unit) t => wq D A (X) t) A) (([.long xh, .long xv] : List Value).toArray) s 0 0 A) (F0 m 0 ls [])
  refine lv_ldc2 (v := 31) hx hb hown (hts (.constantLong RX8 400 (31)) (List.mem_of_getElem? (i := 1) rfl)) dX8_joined_0 ?_
  refine lv_lload_n hx hb dX8_joined_3 rfl (lv_at hl 0 rfl) ?_
  refine lv_lmul hx hb dX8_joined_4 ?_
  refine lv_lload_n hx hb dX8_joined_5 rfl (lv_at hl 1 rfl) ?_
  refine lv_ladd hx hb dX8_joined_6 ?_
  exact W.lret (v := ((31 * xh) + xv)) hx hb hr (fun t9 ht9 hW9 => ⟨⟨((31 * xh) + xv), (), rfl, rfl, by rw [ht9]; exact hP, hD⟩, hS.F ht9⟩) hS.2.2 dX8_joined_7
theorem hL_s (f : Nat → Int64) (n : Nat) (h : Int64) : hL f (n + 1) h = mxL (hL f n h) (f n) := rfl
theorem hI_s (g : Nat → Int64 → Int64) (n : Nat) (h : Int64) : hI g (n + 1) h = g n (hI g n h) := rfl
theorem ge1_t {d : UInt64} (h : (0 : Int32) ≤ Op.cmpValue (FP.dcmp d FP.dconst1) .g) : ge1 d = true := decide_eq_true h
theorem ge1_f {d : UInt64} (h : ¬ (0 : Int32) ≤ Op.cmpValue (FP.dcmp d FP.dconst1) .g) : ¬ ge1 d = true := fun q => h (of_decide_eq_true q)
theorem bos_go {n : Nat} {d : UInt64} {e : Int64} (h : bosOK n d = true) (hg : ¬ ge1 d = true) : ∃ m, n = m + 1 ∧ vf_n64 (FP.dmul d dTwo) ∧ bosOK m (FP.dmul d dTwo) = true ∧ bosF n d e = bosF m (FP.dmul d dTwo) (e - 1) := by
  cases n with
  | zero => cases h
  | succ m =>
    rw [bosOK, if_neg hg, Bool.and_eq_true] at h
    exact ⟨m, rfl, nnD_t h.1, h.2, by rw [bosF, if_neg hg]⟩
theorem bos_end {n : Nat} {d : UInt64} {e : Int64} (h : bosOK n d = true) (hg : ge1 d = true) : vf_n64 (FP.dsub d FP.dconst1) ∧ vf_n64 (FP.dmul (FP.dsub d FP.dconst1) dBig) ∧ bosF n d e = (d, e) := by
  cases n with
  | zero => cases h
  | succ m =>
    rw [bosOK, if_pos hg, Bool.and_eq_true] at h
    exact ⟨nnD_t h.1, nnD_t h.2, by rw [bosF, if_pos hg]⟩
set_option maxHeartbeats 4000000 in
set_option maxRecDepth 100000 in
theorem m_bitsOfShare (l : Launch) (D : va_G) (cI cZ cW cJ : ClassId) (A : Nat → Prop) (X : va_W) (xd : UInt64) (hpos : (0 : Int32) < Op.cmpValue (FP.dcmp xd FP.dconst0) .l) (hok : bosOK 10 xd = true) : Met l yX8_bitsOfShare wsX8_bitsOfShare ({ frames := 0, cells := 0, slots := 0, locals := 0 }) (va_Pc [.double xd] (wd D (tyL cI cZ cW cJ) A (X))) (va_Ql (fun (r : Int64) (u : Unit) => r = bosV xd) (fun (u : Unit) t => wq D A (X) t) A) 0 0 A := by
  refine Met.ofW (cc := cX8_bitsOfShare) (maxL := 7) (ret := (some .long)) (by decide) rfl ?_
  intro p e s m args below meth c s₁ B hml hv
  obtain ⟨rfl, hsz9, hP, hK, hD, hN⟩ := hv
  have hx := B.exec
  have hb := B.bytes
  have hr := B.returns
  have hts := atoms_spec (ws := wsX8_bitsOfShare) B.pre
  have hown : s.vm.findClass RX8 = some m.cls := findClass_of_methodNamed B.named
  have hlocks := B.notSynchronized
  have CF : CallFix p m c cX8_bitsOfShare 7 s _ wsX8_bitsOfShare RX8 := ⟨hx, hb, hml, hown, hts⟩
  have hA : ∀ q : Nat, s.heap.size ≤ q → A q := hsz9
  have hS : va_S A s.heap s.heap [] := va_S.rf
  have hl := lv_entry ([.double xd]) (n := 7) (Nat.le_of_ble_eq_true rfl)
  rw [lg_entry_eq]
  generalize (lg_sl ([.double xd]) ++ List.replicate (7 - (lg_sl ([.double xd])).length) Slot.unset).toArray = ls at hl ⊢
  have hl : lv_has ls 7 [(0, .double xd)] := hl
  show W p l e ({ frames := 0, cells := 0, slots := 0, locals := 0 } : Room) s m (([.double xd] : List Value).toArray) below meth c s.heap [] 0 0 (MQ below (va_Ql (fun (r : Int64) (u : Unit) => r = bosV xd) (fun (u : Unit) t => wq D A (X) t) A) (([.double xd] : List Value).toArray) s 0 0 A) (F0 m 0 ls [])
  refine lv_dload_n hx hb dX8_bitsOfShare_0 rfl (lv_at hl 0 rfl) ?_
  refine lv_dconst0 hx hb dX8_bitsOfShare_1 ?_
  refine lv_dcmp hx hb dX8_bitsOfShare_2 ?_
  have c_3 : (0 : Int32) < (Op.cmpValue (FP.dcmp xd FP.dconst0) .l) := hpos
  refine lv_if_gt (tgt := 8) hx hb dX8_bitsOfShare_3 (by decide) (fun _ => ?_) (fun q => absurd c_3 q)
  refine lv_dload_n hx hb dX8_bitsOfShare_8 rfl (lv_at hl 0 rfl) ?_
  refine lv_dstore_n (lv' := [(2, .double xd), (0, .double xd)]) hx hb dX8_bitsOfShare_9 rfl hl (by decide) rfl (fun ls hl => ?_)
  refine lv_ldc2 (v := 1023) hx hb hown (hts (.constantLong RX8 413 (1023)) (List.mem_of_getElem? (i := 1) rfl)) dX8_bitsOfShare_10 ?_
  refine lv_lstore (lv' := [(4, .long 1023), (2, .double xd), (0, .double xd)]) hx hb dX8_bitsOfShare_13 hl (by decide) rfl (fun ls hl => ?_)
  refine lv_iconst (v := 0) hx hb dX8_bitsOfShare_15 (by decide) ?_
  refine lv_istore (lv' := [(6, .int 0), (4, .long 1023), (2, .double xd), (0, .double xd)]) hx hb dX8_bitsOfShare_16 hl (by decide) rfl (fun ls hl => ?_)
  have loop_18 : ∀ (nfu : Nat) (i n : Nat) (d9 : UInt64) (e9 : Int64) (hn_18 : n < nfu) (hin : i + n = 10) (hk9 : bosOK n d9 = true) (hv9 : bosF n d9 e9 = bosF 10 xd 1023) (H : Heap) (locs : List Loc) (hP : va_P D vwCl (X) H) (hD : va_D A (X)) (hS : va_S A s.heap H locs) (ls : Array Slot) (hl : lv_has ls 7 [(6, .int (nI i)), (4, .long e9), (2, .double d9), (0, .double xd)]), W p l e ({ frames := 0, cells := 0, slots := 0, locals := 0 } : Room) s m (([.double xd] : List Value).toArray) below meth c H locs 0 0 (MQ below (va_Ql (fun (r : Int64) (u : Unit) => r = bosV xd) (fun (u : Unit) t => wq D A (X) t) A) (([.double xd] : List Value).toArray) s 0 0 A) (F0 m 18 ls []) := by
    intro nfu
    induction nfu with
    | zero => intro i n d9 e9 hn_18; exact absurd hn_18 (Nat.not_lt_zero _)
    | succ nfu ih_18 =>
      intro i n d9 e9 hn_18 hin hk9 hv9 H locs hP hD hS ls hl
      refine lv_iload hx hb dX8_bitsOfShare_18 (lv_at hl 0 rfl) ?_
      refine lv_sipush (v := 1000) hx hb dX8_bitsOfShare_20 (by decide) ?_
      have c_23 : ¬ (1000 : Int32) ≤ (nI i) := fun q => by have h := le_of_ge (a := 1000) (b := i) (by decide) (by omega) q; omega
      refine lv_icmp_ge (tgt := 50) hx hb dX8_bitsOfShare_23 (by decide) (fun q => absurd q c_23) (fun _ => ?_)
      refine lv_dload_n hx hb dX8_bitsOfShare_26 rfl (lv_at hl 2 rfl) ?_
      refine lv_dconst1 hx hb dX8_bitsOfShare_27 ?_
      refine lv_dcmp hx hb dX8_bitsOfShare_28 ?_
      refine lv_if_ge (tgt := 50) hx hb dX8_bitsOfShare_29 (by decide) (fun c_29 => ?_) (fun c_29 => ?_)
      · obtain ⟨hb5, hb6, hb7⟩ := bos_end (e := e9) hk9 (ge1_t c_29)
        refine lv_lload hx hb dX8_bitsOfShare_50 (lv_at hl 1 rfl) ?_
        refine lv_bipush (v := 52) hx hb dX8_bitsOfShare_52 (by decide) ?_
        refine lv_lshl (v := (e9 <<< ((52 : Int32).toInt64 &&& 63))) hx hb dX8_bitsOfShare_54 rfl ?_
        refine lv_dload_n hx hb dX8_bitsOfShare_55 rfl (lv_at hl 2 rfl) ?_
        refine lv_dconst1 hx hb dX8_bitsOfShare_56 ?_
        refine lv_dsub hx hb dX8_bitsOfShare_57 (hb5) ?_
        refine lv_ldc2d (v := 4841369599423283200) hx hb hown (hts (.constantDouble RX8 417 (4841369599423283200)) (List.mem_of_getElem? (i := 3) rfl)) dX8_bitsOfShare_58 ?_
        refine lv_dmul hx hb dX8_bitsOfShare_61 (hb6) ?_
        refine lv_d2l hx hb dX8_bitsOfShare_62 ?_
        refine lv_ladd hx hb dX8_bitsOfShare_63 ?_
        exact W.lret (v := ((e9 <<< ((52 : Int32).toInt64 &&& 63)) + (FP.d2l (FP.dmul (FP.dsub d9 FP.dconst1) 4841369599423283200)))) hx hb hr (fun t9 ht9 hW9 => ⟨⟨((e9 <<< ((52 : Int32).toInt64 &&& 63)) + (FP.d2l (FP.dmul (FP.dsub d9 FP.dconst1) 4841369599423283200))), (), rfl, by unfold bosV; rw [← hv9, hb7], by rw [ht9]; exact hP, hD⟩, hS.F ht9⟩) hS.2.2 dX8_bitsOfShare_64
      · obtain ⟨n9, rfl, hb2, hb3, hb4⟩ := bos_go (e := e9) hk9 (ge1_f c_29)
        refine lv_dload_n hx hb dX8_bitsOfShare_32 rfl (lv_at hl 2 rfl) ?_
        refine lv_ldc2d (v := 4611686018427387904) hx hb hown (hts (.constantDouble RX8 415 (4611686018427387904)) (List.mem_of_getElem? (i := 2) rfl)) dX8_bitsOfShare_33 ?_
        refine lv_dmul hx hb dX8_bitsOfShare_36 (hb2) ?_
        refine lv_dstore_n (lv' := [(2, .double (FP.dmul d9 4611686018427387904)), (6, .int (nI i)), (4, .long e9), (0, .double xd)]) hx hb dX8_bitsOfShare_37 rfl hl (by decide) rfl (fun ls hl => ?_)
        refine lv_lload hx hb dX8_bitsOfShare_38 (lv_at hl 2 rfl) ?_
        refine lv_lconst (v := 1) hx hb dX8_bitsOfShare_40 (by decide) ?_
        refine lv_lsub hx hb dX8_bitsOfShare_41 ?_
        refine lv_lstore (lv' := [(4, .long (e9 - 1)), (2, .double (FP.dmul d9 4611686018427387904)), (6, .int (nI i)), (0, .double xd)]) hx hb dX8_bitsOfShare_42 hl (by decide) rfl (fun ls hl => ?_)
        refine lv_iinc (v := (nI (i + 1))) (lv' := [(6, .int (nI (i + 1))), (4, .long (e9 - 1)), (2, .double (FP.dmul d9 4611686018427387904)), (0, .double xd)]) hx hb dX8_bitsOfShare_44 hl (k := 2) rfl (nI_1 i) (by decide) rfl (fun ls hl => ?_)
        refine lv_goto (tgt := 18) hx hb dX8_bitsOfShare_47 (by decide) ?_
        exact ih_18 (i + 1) n9 (FP.dmul d9 dTwo) (e9 - 1) (by omega) (by omega) (hb3) (hb4.symm.trans hv9) _ _ (hP) (hD) hS _ (lv_sub hl [0, 1, 2, 3] rfl)
  exact loop_18 _ 0 10 xd 1023 (Nat.lt_succ_self _) (rfl) (hok) (rfl) _ _ hP hD hS _ (lv_sub hl [0, 1, 2, 3] rfl)
set_option maxHeartbeats 4000000 in
set_option maxRecDepth 100000 in
theorem m_hashCounts (l : Launch) (D : va_G) (cI cZ cW cJ : ClassId) (A : Nat → Prop) (X : va_W) (xo hi sn tx f mm re ro : Nat) (mk rk : Bool) (mro mfi mle mlo : Nat) (glo : Nat → Int32) (sz : Nat) (w wb ws : Nat) (wc wr wl ww wf : Int32) (wbl : Nat → Int32) (wse : Nat → Int32) (rog rsp rqu rta : Nat) (rut : Int32) (gsp : Nat → Int32) (hn : Int32) (hv : Nat) (xh : Int64) (hsz : sz ≤ 100) : Met l yX8_hashOfCounts wsX8_hashOfCounts ({ frames := 5, cells := 0, slots := 0, locals := 108 }) (va_Pc [.ref xo, .long xh] (wd D (tyL cI cZ cW cJ) A (oX8 xo w hi sn tx f mm re ro (bI mk) (bI rk) :: oX2 mm mro mfi mle (nI sz) mlo :: aI cI mlo 200 glo :: oX7 w wb ws wc wr wl ww wf :: aI cI wb 10 wbl :: aI cI ws 3 wse :: oX5 ro rog rsp rqu rta rut :: aI cI rsp 400 gsp :: oX1 hi hn hv :: X))) (va_Ql (fun (r : Int64) (u : Unit) => r = hL (fun k => (wse k).toInt64) 3 (hL (fun k => (countF wbl glo gsp sz wc wr wl ww wf hn k).toInt64) 10 xh)) (fun (u : Unit) t => wq D A (oX8 xo w hi sn tx f mm re ro (bI mk) (bI rk) :: oX2 mm mro mfi mle (nI sz) mlo :: aI cI mlo 200 glo :: oX7 w wb ws wc wr wl ww wf :: aI cI wb 10 wbl :: aI cI ws 3 wse :: oX5 ro rog rsp rqu rta rut :: aI cI rsp 400 gsp :: oX1 hi hn hv :: X) t) A) 0 0 A := by
  refine Met.ofW (cc := cX8_hashOfCounts) (maxL := 6) (ret := (some .long)) (by decide) rfl ?_
  intro p e s m args below meth c s₁ B hml hv
  obtain ⟨rfl, hsz9, hP, hK, hD, hN⟩ := hv
  have hx := B.exec
  have hb := B.bytes
  have hr := B.returns
  have hts := atoms_spec (ws := wsX8_hashOfCounts) B.pre
  have hown : s.vm.findClass RX8 = some m.cls := findClass_of_methodNamed B.named
  have hlocks := B.notSynchronized
  have CF : CallFix p m c cX8_hashOfCounts 6 s _ wsX8_hashOfCounts RX8 := ⟨hx, hb, hml, hown, hts⟩
  have hA : ∀ q : Nat, s.heap.size ≤ q → A q := hsz9
  have hS : va_S A s.heap s.heap [] := va_S.rf
  have hiX7 : ∀ w ∈ u_ws RX7 TX7 7, w ∈ wsX8_hashOfCounts := fun _ h => List.mem_cons_of_mem _ (List.mem_append_left _ (List.mem_append_left _ (List.mem_append_left _ (List.mem_append_right _ (h)))))
  have hiX8 : ∀ w ∈ u_ws RX8 TX8 10, w ∈ wsX8_hashOfCounts := fun _ h => List.mem_cons_of_mem _ (List.mem_append_left _ (List.mem_append_left _ (List.mem_append_left _ (List.mem_append_left _ (List.mem_append_right _ (h))))))
  have hl := lv_entry ([.ref xo, .long xh]) (n := 6) (Nat.le_of_ble_eq_true rfl)
  rw [lg_entry_eq]
  generalize (lg_sl ([.ref xo, .long xh]) ++ List.replicate (6 - (lg_sl ([.ref xo, .long xh])).length) Slot.unset).toArray = ls at hl ⊢
  have hl : lv_has ls 6 [(0, .ref xo), (1, .long xh)] := hl
  show W p l e ({ frames := 5, cells := 0, slots := 0, locals := 108 } : Room) s m (([.ref xo, .long xh] : List Value).toArray) below meth c s.heap [] 0 0 (MQ below (va_Ql (fun (r : Int64) (u : Unit) => r = hL (fun k => (wse k).toInt64) 3 (hL (fun k => (countF wbl glo gsp sz wc wr wl ww wf hn k).toInt64) 10 xh)) (fun (u : Unit) t => wq D A (oX8 xo w hi sn tx f mm re ro (bI mk) (bI rk) :: oX2 mm mro mfi mle (nI sz) mlo :: aI cI mlo 200 glo :: oX7 w wb ws wc wr wl ww wf :: aI cI wb 10 wbl :: aI cI ws 3 wse :: oX5 ro rog rsp rqu rta rut :: aI cI rsp 400 gsp :: oX1 hi hn hv :: X) t) A) (([.ref xo, .long xh] : List Value).toArray) s 0 0 A) (F0 m 0 ls [])
  refine lv_lload_n hx hb dX8_hashOfCounts_0 rfl (lv_at hl 1 rfl) ?_
  refine lv_lstore_n (lv' := [(3, .long xh), (0, .ref xo), (1, .long xh)]) hx hb dX8_hashOfCounts_1 rfl hl (by decide) rfl (fun ls hl => ?_)
  refine lv_iconst (v := 0) hx hb dX8_hashOfCounts_2 (by decide) ?_
  refine lv_istore (lv' := [(5, .int 0), (3, .long xh), (0, .ref xo), (1, .long xh)]) hx hb dX8_hashOfCounts_3 hl (by decide) rfl (fun ls hl => ?_)
  have loop_5 : ∀ (nfu : Nat) (i : Nat) (h9 : Int64) (hn_5 : 10 - i < nfu) (hi9 : i ≤ 10) (hv9 : h9 = hL (fun k => (countF wbl glo gsp sz wc wr wl ww wf hn k).toInt64) i xh) (H : Heap) (locs : List Loc) (hP : va_P D vwCl (oX8 xo w hi sn tx f mm re ro (bI mk) (bI rk) :: oX2 mm mro mfi mle (nI sz) mlo :: aI cI mlo 200 glo :: oX7 w wb ws wc wr wl ww wf :: aI cI wb 10 wbl :: aI cI ws 3 wse :: oX5 ro rog rsp rqu rta rut :: aI cI rsp 400 gsp :: oX1 hi hn hv :: X) H) (hD : va_D A (oX8 xo w hi sn tx f mm re ro (bI mk) (bI rk) :: oX2 mm mro mfi mle (nI sz) mlo :: aI cI mlo 200 glo :: oX7 w wb ws wc wr wl ww wf :: aI cI wb 10 wbl :: aI cI ws 3 wse :: oX5 ro rog rsp rqu rta rut :: aI cI rsp 400 gsp :: oX1 hi hn hv :: X)) (hS : va_S A s.heap H locs) (ls : Array Slot) (hl : lv_has ls 6 [(5, .int (nI i)), (3, .long h9), (0, .ref xo), (1, .long xh)]), W p l e ({ frames := 5, cells := 0, slots := 0, locals := 108 } : Room) s m (([.ref xo, .long xh] : List Value).toArray) below meth c H locs 0 0 (MQ below (va_Ql (fun (r : Int64) (u : Unit) => r = hL (fun k => (wse k).toInt64) 3 (hL (fun k => (countF wbl glo gsp sz wc wr wl ww wf hn k).toInt64) 10 xh)) (fun (u : Unit) t => wq D A (oX8 xo w hi sn tx f mm re ro (bI mk) (bI rk) :: oX2 mm mro mfi mle (nI sz) mlo :: aI cI mlo 200 glo :: oX7 w wb ws wc wr wl ww wf :: aI cI wb 10 wbl :: aI cI ws 3 wse :: oX5 ro rog rsp rqu rta rut :: aI cI rsp 400 gsp :: oX1 hi hn hv :: X) t) A) (([.ref xo, .long xh] : List Value).toArray) s 0 0 A) (F0 m 5 ls []) := by
    intro nfu
    induction nfu with
    | zero => intro i h9 hn_5; exact absurd hn_5 (Nat.not_lt_zero _)
    | succ nfu ih_5 =>
      intro i h9 hn_5 hi9 hv9 H locs hP hD hS ls hl
      refine lv_iload hx hb dX8_hashOfCounts_5 (lv_at hl 0 rfl) ?_
      refine lv_bipush (v := 10) hx hb dX8_hashOfCounts_7 (by decide) ?_
      refine lv_icmp_ge (tgt := 30) hx hb dX8_hashOfCounts_9 (by decide) (fun c_9 => ?_) (fun c_9 => ?_)
      · refine lv_iconst (v := 0) hx hb dX8_hashOfCounts_30 (by decide) ?_
        refine lv_istore (lv' := [(5, .int 0), (3, .long h9), (0, .ref xo), (1, .long xh)]) hx hb dX8_hashOfCounts_31 hl (by decide) rfl (fun ls hl => ?_)
        have loop_33 : ∀ (nfu : Nat) (j : Nat) (h8 : Int64) (hn_33 : 3 - j < nfu) (hj9 : j ≤ 3) (hv8 : h8 = hL (fun k => (wse k).toInt64) j (hL (fun k => (countF wbl glo gsp sz wc wr wl ww wf hn k).toInt64) 10 xh)) (H : Heap) (locs : List Loc) (hP : va_P D vwCl (oX8 xo w hi sn tx f mm re ro (bI mk) (bI rk) :: oX2 mm mro mfi mle (nI sz) mlo :: aI cI mlo 200 glo :: oX7 w wb ws wc wr wl ww wf :: aI cI wb 10 wbl :: aI cI ws 3 wse :: oX5 ro rog rsp rqu rta rut :: aI cI rsp 400 gsp :: oX1 hi hn hv :: X) H) (hD : va_D A (oX8 xo w hi sn tx f mm re ro (bI mk) (bI rk) :: oX2 mm mro mfi mle (nI sz) mlo :: aI cI mlo 200 glo :: oX7 w wb ws wc wr wl ww wf :: aI cI wb 10 wbl :: aI cI ws 3 wse :: oX5 ro rog rsp rqu rta rut :: aI cI rsp 400 gsp :: oX1 hi hn hv :: X)) (hS : va_S A s.heap H locs) (ls : Array Slot) (hl : lv_has ls 6 [(5, .int (nI j)), (3, .long h8), (0, .ref xo), (1, .long xh)]), W p l e ({ frames := 5, cells := 0, slots := 0, locals := 108 } : Room) s m (([.ref xo, .long xh] : List Value).toArray) below meth c H locs 0 0 (MQ below (va_Ql (fun (r : Int64) (u : Unit) => r = hL (fun k => (wse k).toInt64) 3 (hL (fun k => (countF wbl glo gsp sz wc wr wl ww wf hn k).toInt64) 10 xh)) (fun (u : Unit) t => wq D A (oX8 xo w hi sn tx f mm re ro (bI mk) (bI rk) :: oX2 mm mro mfi mle (nI sz) mlo :: aI cI mlo 200 glo :: oX7 w wb ws wc wr wl ww wf :: aI cI wb 10 wbl :: aI cI ws 3 wse :: oX5 ro rog rsp rqu rta rut :: aI cI rsp 400 gsp :: oX1 hi hn hv :: X) t) A) (([.ref xo, .long xh] : List Value).toArray) s 0 0 A) (F0 m 33 ls []) := by
          intro nfu
          induction nfu with
          | zero => intro j h8 hn_33; exact absurd hn_33 (Nat.not_lt_zero _)
          | succ nfu ih_33 =>
            intro j h8 hn_33 hj9 hv8 H locs hP hD hS ls hl
            refine lv_iload hx hb dX8_hashOfCounts_33 (lv_at hl 0 rfl) ?_
            refine lv_iconst (v := 3) hx hb dX8_hashOfCounts_35 (by decide) ?_
            refine lv_icmp_ge (tgt := 63) hx hb dX8_hashOfCounts_36 (by decide) (fun c_36 => ?_) (fun c_36 => ?_)
            · refine lv_lload_n hx hb dX8_hashOfCounts_63 rfl (lv_at hl 1 rfl) ?_
              exact W.lret (v := h8) hx hb hr (fun t9 ht9 hW9 => ⟨⟨h8, (), rfl, by rw [hv8, show j = 3 by have h := le_of_ge (a := 3) (b := j) (by decide) (by omega) c_36; omega], by rw [ht9]; exact hP, hD⟩, hS.F ht9⟩) hS.2.2 dX8_hashOfCounts_64
            · have hj2 : j < 3 := lt_of_nge (a := 3) (b := j) (by decide) (by omega) c_36
              refine lv_lload_n hx hb dX8_hashOfCounts_39 rfl (lv_at hl 1 rfl) ?_
              refine lv_aload_n hx hb dX8_hashOfCounts_40 rfl (lv_at hl 2 rfl) ?_
              refine va_get (D := D) (ci := 8) (v := .ref w) (C := RX8) (T := TX8) (N := 10) hx hb hts hiX8 hown hK hP 0 rfl rfl 0 (by decide) (hts (.fieldLink RX8 12 "LedgeLeaps" "world" "LLedgeLeaps$World;") (List.mem_of_getElem? (i := 1) rfl)) (fun _ h9 => h9) rfl dX8_hashOfCounts_41 ?_
              refine va_get (D := D) (ci := 7) (v := .ref ws) (C := RX7) (T := TX7) (N := 7) hx hb hts hiX7 hown hK hP 3 rfl rfl 1 (by decide) (hts (.fieldLink RX8 103 "LedgeLeaps$World" "settings" "[I") (List.mem_of_getElem? (i := 2) rfl)) (fun _ h9 => h9) rfl dX8_hashOfCounts_44 ?_
              refine lv_iload hx hb dX8_hashOfCounts_47 (lv_at hl 0 rfl) ?_
              refine cS_i CF hK hN hA hS (cut_of 9 [5, 0, 1, 2, 3, 4, 6, 7, 8] hP hD rfl rfl rfl) (m_at l D cI cZ cW cJ A (oX8 xo w hi sn tx f mm re ro (bI mk) (bI rk) :: oX2 mm mro mfi mle (nI sz) mlo :: aI cI mlo 200 glo :: oX7 w wb ws wc wr wl ww wf :: aI cI wb 10 wbl :: oX5 ro rog rsp rqu rta rut :: aI cI rsp 400 gsp :: oX1 hi hn hv :: X) ws 3 wse (nI j) (by decide)) (va_cwS 2 hts gX8_hashOfCounts_X8_at rfl rfl rfl (by decide +kernel) ⟨Nat.le_of_ble_eq_true rfl, Nat.le_of_ble_eq_true rfl⟩) (As := [.ref ws, .int (nI j)]) (rest := [.long h8]) rfl hl.1 rfl (Nat.le_of_ble_eq_true rfl) dX8_hashOfCounts_49 ⟨Nat.le_of_ble_eq_true rfl, Nat.le_of_ble_eq_true rfl⟩ (fun r_49 _ H locs hq hP hD hS => ?_)
              have hq : r_49 = atX 3 wse (nI j) := hq
              subst hq
              have hP : va_P D vwCl (oX8 xo w hi sn tx f mm re ro (bI mk) (bI rk) :: oX2 mm mro mfi mle (nI sz) mlo :: aI cI mlo 200 glo :: oX7 w wb ws wc wr wl ww wf :: aI cI wb 10 wbl :: aI cI ws 3 wse :: oX5 ro rog rsp rqu rta rut :: aI cI rsp 400 gsp :: oX1 hi hn hv :: X) H := pm_P hP 9 [1, 2, 3, 4, 5, 0, 6, 7, 8] rfl
              have hD : va_D A (oX8 xo w hi sn tx f mm re ro (bI mk) (bI rk) :: oX2 mm mro mfi mle (nI sz) mlo :: aI cI mlo 200 glo :: oX7 w wb ws wc wr wl ww wf :: aI cI wb 10 wbl :: aI cI ws 3 wse :: oX5 ro rog rsp rqu rta rut :: aI cI rsp 400 gsp :: oX1 hi hn hv :: X) := pm_D hD 9 [1, 2, 3, 4, 5, 0, 6, 7, 8] rfl rfl rfl
              refine top_i (y := (wse j)) (at_nI hj2 (by decide)) ?_
              refine lv_i2l (v := ((wse j)).toInt64) hx hb dX8_hashOfCounts_52 rfl ?_
              refine cS_l CF hK hN hA hS (cut_of 9 [0, 1, 2, 3, 4, 5, 6, 7, 8] hP hD rfl rfl rfl) (m_joined l D cI cZ cW cJ A (oX8 xo w hi sn tx f mm re ro (bI mk) (bI rk) :: oX2 mm mro mfi mle (nI sz) mlo :: aI cI mlo 200 glo :: oX7 w wb ws wc wr wl ww wf :: aI cI wb 10 wbl :: aI cI ws 3 wse :: oX5 ro rog rsp rqu rta rut :: aI cI rsp 400 gsp :: oX1 hi hn hv :: X) h8 (((wse j)).toInt64)) (va_cwS 2 hts gX8_hashOfCounts_X8_joined rfl rfl rfl (by decide +kernel) ⟨Nat.le_of_ble_eq_true rfl, Nat.le_of_ble_eq_true rfl⟩) (As := [.long h8, .long (((wse j)).toInt64)]) (rest := []) rfl hl.1 rfl (Nat.le_of_ble_eq_true rfl) dX8_hashOfCounts_53 ⟨Nat.le_of_ble_eq_true rfl, Nat.le_of_ble_eq_true rfl⟩ (fun r_53 _ H locs hq hP hD hS => ?_)
              have hq : r_53 = mxL h8 (((wse j)).toInt64) := hq
              subst hq
              have hP : va_P D vwCl (oX8 xo w hi sn tx f mm re ro (bI mk) (bI rk) :: oX2 mm mro mfi mle (nI sz) mlo :: aI cI mlo 200 glo :: oX7 w wb ws wc wr wl ww wf :: aI cI wb 10 wbl :: aI cI ws 3 wse :: oX5 ro rog rsp rqu rta rut :: aI cI rsp 400 gsp :: oX1 hi hn hv :: X) H := pm_P hP 9 [0, 1, 2, 3, 4, 5, 6, 7, 8] rfl
              have hD : va_D A (oX8 xo w hi sn tx f mm re ro (bI mk) (bI rk) :: oX2 mm mro mfi mle (nI sz) mlo :: aI cI mlo 200 glo :: oX7 w wb ws wc wr wl ww wf :: aI cI wb 10 wbl :: aI cI ws 3 wse :: oX5 ro rog rsp rqu rta rut :: aI cI rsp 400 gsp :: oX1 hi hn hv :: X) := pm_D hD 9 [0, 1, 2, 3, 4, 5, 6, 7, 8] rfl rfl rfl
              refine lv_lstore_n (lv' := [(3, .long (mxL h8 (((wse j)).toInt64))), (5, .int (nI j)), (0, .ref xo), (1, .long xh)]) hx hb dX8_hashOfCounts_56 rfl hl (by decide) rfl (fun ls hl => ?_)
              refine lv_iinc (v := (nI (j + 1))) (lv' := [(5, .int (nI (j + 1))), (3, .long (mxL h8 (((wse j)).toInt64))), (0, .ref xo), (1, .long xh)]) hx hb dX8_hashOfCounts_57 hl (k := 1) rfl (nI_1 j) (by decide) rfl (fun ls hl => ?_)
              refine lv_goto (tgt := 33) hx hb dX8_hashOfCounts_60 (by decide) ?_
              exact ih_33 (j + 1) (mxL h8 (((wse j)).toInt64)) (by omega) (by omega) (by rw [hv8]; exact (hL_s _ _ _).symm) _ _ (hP) (hD) hS _ (lv_sub hl [0, 1, 2, 3] rfl)
        exact loop_33 _ 0 h9 (Nat.lt_succ_self _) (Nat.zero_le _) (by rw [hv9, show i = 10 by have h := le_of_ge (a := 10) (b := i) (by decide) (by omega) c_9; omega]; rfl) _ _ hP hD hS _ (lv_sub hl [0, 1, 2, 3] rfl)
      · have hi2 : i < 10 := lt_of_nge (a := 10) (b := i) (by decide) (by omega) c_9
        refine lv_lload_n hx hb dX8_hashOfCounts_12 rfl (lv_at hl 1 rfl) ?_
        refine lv_aload_n hx hb dX8_hashOfCounts_13 rfl (lv_at hl 2 rfl) ?_
        refine lv_iload hx hb dX8_hashOfCounts_14 (lv_at hl 0 rfl) ?_
        refine cV_i CF hK hN hA hS (cut_of 9 [0, 1, 2, 3, 4, 6, 7, 8, 5] hP hD rfl rfl rfl) (m_countedNumber l D cI cZ cW cJ A (aI cI ws 3 wse :: X) xo hi sn tx f mm re ro mk rk mro mfi mle mlo glo sz w wb ws wc wr wl ww wf wbl rog rsp rqu rta rut gsp hn hv i hsz hi2) (cwV 1 hts gX8_hashOfCounts_X8_countedNumber rfl rfl rfl (by decide +kernel) ⟨Nat.le_of_ble_eq_true rfl, Nat.le_of_ble_eq_true rfl⟩) (As := [.int (nI i)]) (rest := [.long h9]) (ci := 8) (q0 := 0) rfl rfl rfl hl.1 rfl (Nat.le_of_ble_eq_true rfl) dX8_hashOfCounts_16 ⟨Nat.le_of_ble_eq_true rfl, Nat.le_of_ble_eq_true rfl⟩ (fun r_16 _ H locs hq hP hD hS => ?_)
        have hq : r_16 = countF wbl glo gsp sz wc wr wl ww wf hn i := hq
        subst hq
        have hP : va_P D vwCl (oX8 xo w hi sn tx f mm re ro (bI mk) (bI rk) :: oX2 mm mro mfi mle (nI sz) mlo :: aI cI mlo 200 glo :: oX7 w wb ws wc wr wl ww wf :: aI cI wb 10 wbl :: aI cI ws 3 wse :: oX5 ro rog rsp rqu rta rut :: aI cI rsp 400 gsp :: oX1 hi hn hv :: X) H := pm_P hP 9 [0, 1, 2, 3, 4, 8, 5, 6, 7] rfl
        have hD : va_D A (oX8 xo w hi sn tx f mm re ro (bI mk) (bI rk) :: oX2 mm mro mfi mle (nI sz) mlo :: aI cI mlo 200 glo :: oX7 w wb ws wc wr wl ww wf :: aI cI wb 10 wbl :: aI cI ws 3 wse :: oX5 ro rog rsp rqu rta rut :: aI cI rsp 400 gsp :: oX1 hi hn hv :: X) := pm_D hD 9 [0, 1, 2, 3, 4, 8, 5, 6, 7] rfl rfl rfl
        refine lv_i2l (v := ((countF wbl glo gsp sz wc wr wl ww wf hn i)).toInt64) hx hb dX8_hashOfCounts_19 rfl ?_
        refine cS_l CF hK hN hA hS (cut_of 9 [0, 1, 2, 3, 4, 5, 6, 7, 8] hP hD rfl rfl rfl) (m_joined l D cI cZ cW cJ A (oX8 xo w hi sn tx f mm re ro (bI mk) (bI rk) :: oX2 mm mro mfi mle (nI sz) mlo :: aI cI mlo 200 glo :: oX7 w wb ws wc wr wl ww wf :: aI cI wb 10 wbl :: aI cI ws 3 wse :: oX5 ro rog rsp rqu rta rut :: aI cI rsp 400 gsp :: oX1 hi hn hv :: X) h9 (((countF wbl glo gsp sz wc wr wl ww wf hn i)).toInt64)) (va_cwS 2 hts gX8_hashOfCounts_X8_joined rfl rfl rfl (by decide +kernel) ⟨Nat.le_of_ble_eq_true rfl, Nat.le_of_ble_eq_true rfl⟩) (As := [.long h9, .long (((countF wbl glo gsp sz wc wr wl ww wf hn i)).toInt64)]) (rest := []) rfl hl.1 rfl (Nat.le_of_ble_eq_true rfl) dX8_hashOfCounts_20 ⟨Nat.le_of_ble_eq_true rfl, Nat.le_of_ble_eq_true rfl⟩ (fun r_20 _ H locs hq hP hD hS => ?_)
        have hq : r_20 = mxL h9 (((countF wbl glo gsp sz wc wr wl ww wf hn i)).toInt64) := hq
        subst hq
        have hP : va_P D vwCl (oX8 xo w hi sn tx f mm re ro (bI mk) (bI rk) :: oX2 mm mro mfi mle (nI sz) mlo :: aI cI mlo 200 glo :: oX7 w wb ws wc wr wl ww wf :: aI cI wb 10 wbl :: aI cI ws 3 wse :: oX5 ro rog rsp rqu rta rut :: aI cI rsp 400 gsp :: oX1 hi hn hv :: X) H := pm_P hP 9 [0, 1, 2, 3, 4, 5, 6, 7, 8] rfl
        have hD : va_D A (oX8 xo w hi sn tx f mm re ro (bI mk) (bI rk) :: oX2 mm mro mfi mle (nI sz) mlo :: aI cI mlo 200 glo :: oX7 w wb ws wc wr wl ww wf :: aI cI wb 10 wbl :: aI cI ws 3 wse :: oX5 ro rog rsp rqu rta rut :: aI cI rsp 400 gsp :: oX1 hi hn hv :: X) := pm_D hD 9 [0, 1, 2, 3, 4, 5, 6, 7, 8] rfl rfl rfl
        refine lv_lstore_n (lv' := [(3, .long (mxL h9 (((countF wbl glo gsp sz wc wr wl ww wf hn i)).toInt64))), (5, .int (nI i)), (0, .ref xo), (1, .long xh)]) hx hb dX8_hashOfCounts_23 rfl hl (by decide) rfl (fun ls hl => ?_)
        refine lv_iinc (v := (nI (i + 1))) (lv' := [(5, .int (nI (i + 1))), (3, .long (mxL h9 (((countF wbl glo gsp sz wc wr wl ww wf hn i)).toInt64))), (0, .ref xo), (1, .long xh)]) hx hb dX8_hashOfCounts_24 hl (k := 1) rfl (nI_1 i) (by decide) rfl (fun ls hl => ?_)
        refine lv_goto (tgt := 5) hx hb dX8_hashOfCounts_27 (by decide) ?_
        exact ih_5 (i + 1) (mxL h9 (((countF wbl glo gsp sz wc wr wl ww wf hn i)).toInt64)) (by omega) (by omega) (by rw [hv9]; exact (hL_s _ _ _).symm) _ _ (hP) (hD) hS _ (lv_sub hl [0, 1, 2, 3] rfl)
  exact loop_5 _ 0 xh (Nat.lt_succ_self _) (Nat.zero_le _) (rfl) _ _ hP hD hS _ (lv_sub hl [0, 1, 2, 3] rfl)
set_option maxHeartbeats 4000000 in
set_option maxRecDepth 100000 in
theorem m_hashCells (l : Launch) (D : va_G) (cI cZ cW cJ : ClassId) (A : Nat → Prop) (X : va_W) (xo hi sn tx f mm re ro : Nat) (mk rk : Bool) (mro mfi mle mlo : Nat) (glo : Nat → Int32) (sz : Nat) (w wb ws : Nat) (wc wr wl ww wf : Int32) (wbl : Nat → Int32) (xh : Int64) : Met l yX8_hashOfCells wsX8_hashOfCells ({ frames := 4, cells := 0, slots := 0, locals := 92 }) (va_Pc [.ref xo, .long xh] (wd D (tyL cI cZ cW cJ) A (oX8 xo w hi sn tx f mm re ro (bI mk) (bI rk) :: oX2 mm mro mfi mle (nI sz) mlo :: aI cI mlo 200 glo :: oX7 w wb ws wc wr wl ww wf :: aI cI wb 10 wbl :: X))) (va_Ql (fun (r : Int64) (u : Unit) => r = hI (fun j h => hI (fun i h => hL (fun k => (cellF (blkX wbl) glo (nI i) (nI j) k).toInt64) 3 h) 20 h) 10 xh) (fun (u : Unit) t => wq D A (oX8 xo w hi sn tx f mm re ro (bI mk) (bI rk) :: oX2 mm mro mfi mle (nI sz) mlo :: aI cI mlo 200 glo :: oX7 w wb ws wc wr wl ww wf :: aI cI wb 10 wbl :: X) t) A) 0 0 A := by
  refine Met.ofW (cc := cX8_hashOfCells) (maxL := 8) (ret := (some .long)) (by decide) rfl ?_
  intro p e s m args below meth c s₁ B hml hv
  obtain ⟨rfl, hsz9, hP, hK, hD, hN⟩ := hv
  have hx := B.exec
  have hb := B.bytes
  have hr := B.returns
  have hts := atoms_spec (ws := wsX8_hashOfCells) B.pre
  have hown : s.vm.findClass RX8 = some m.cls := findClass_of_methodNamed B.named
  have hlocks := B.notSynchronized
  have CF : CallFix p m c cX8_hashOfCells 8 s _ wsX8_hashOfCells RX8 := ⟨hx, hb, hml, hown, hts⟩
  have hA : ∀ q : Nat, s.heap.size ≤ q → A q := hsz9
  have hS : va_S A s.heap s.heap [] := va_S.rf
  have hl := lv_entry ([.ref xo, .long xh]) (n := 8) (Nat.le_of_ble_eq_true rfl)
  rw [lg_entry_eq]
  generalize (lg_sl ([.ref xo, .long xh]) ++ List.replicate (8 - (lg_sl ([.ref xo, .long xh])).length) Slot.unset).toArray = ls at hl ⊢
  have hl : lv_has ls 8 [(0, .ref xo), (1, .long xh)] := hl
  show W p l e ({ frames := 4, cells := 0, slots := 0, locals := 92 } : Room) s m (([.ref xo, .long xh] : List Value).toArray) below meth c s.heap [] 0 0 (MQ below (va_Ql (fun (r : Int64) (u : Unit) => r = hI (fun j h => hI (fun i h => hL (fun k => (cellF (blkX wbl) glo (nI i) (nI j) k).toInt64) 3 h) 20 h) 10 xh) (fun (u : Unit) t => wq D A (oX8 xo w hi sn tx f mm re ro (bI mk) (bI rk) :: oX2 mm mro mfi mle (nI sz) mlo :: aI cI mlo 200 glo :: oX7 w wb ws wc wr wl ww wf :: aI cI wb 10 wbl :: X) t) A) (([.ref xo, .long xh] : List Value).toArray) s 0 0 A) (F0 m 0 ls [])
  refine lv_lload_n hx hb dX8_hashOfCells_0 rfl (lv_at hl 1 rfl) ?_
  refine lv_lstore_n (lv' := [(3, .long xh), (0, .ref xo), (1, .long xh)]) hx hb dX8_hashOfCells_1 rfl hl (by decide) rfl (fun ls hl => ?_)
  refine lv_iconst (v := 0) hx hb dX8_hashOfCells_2 (by decide) ?_
  refine lv_istore (lv' := [(5, .int 0), (3, .long xh), (0, .ref xo), (1, .long xh)]) hx hb dX8_hashOfCells_3 hl (by decide) rfl (fun ls hl => ?_)
  have loop_5 : ∀ (nfu : Nat) (j : Nat) (h1 : Int64) (hn_5 : 10 - j < nfu) (hj9 : j ≤ 10) (hv1 : h1 = hI (fun j h => hI (fun i h => hL (fun k => (cellF (blkX wbl) glo (nI i) (nI j) k).toInt64) 3 h) 20 h) j xh) (H : Heap) (locs : List Loc) (hP : va_P D vwCl (oX8 xo w hi sn tx f mm re ro (bI mk) (bI rk) :: oX2 mm mro mfi mle (nI sz) mlo :: aI cI mlo 200 glo :: oX7 w wb ws wc wr wl ww wf :: aI cI wb 10 wbl :: X) H) (hD : va_D A (oX8 xo w hi sn tx f mm re ro (bI mk) (bI rk) :: oX2 mm mro mfi mle (nI sz) mlo :: aI cI mlo 200 glo :: oX7 w wb ws wc wr wl ww wf :: aI cI wb 10 wbl :: X)) (hS : va_S A s.heap H locs) (ls : Array Slot) (hl : lv_has ls 8 [(5, .int (nI j)), (3, .long h1), (0, .ref xo), (1, .long xh)]), W p l e ({ frames := 4, cells := 0, slots := 0, locals := 92 } : Room) s m (([.ref xo, .long xh] : List Value).toArray) below meth c H locs 0 0 (MQ below (va_Ql (fun (r : Int64) (u : Unit) => r = hI (fun j h => hI (fun i h => hL (fun k => (cellF (blkX wbl) glo (nI i) (nI j) k).toInt64) 3 h) 20 h) 10 xh) (fun (u : Unit) t => wq D A (oX8 xo w hi sn tx f mm re ro (bI mk) (bI rk) :: oX2 mm mro mfi mle (nI sz) mlo :: aI cI mlo 200 glo :: oX7 w wb ws wc wr wl ww wf :: aI cI wb 10 wbl :: X) t) A) (([.ref xo, .long xh] : List Value).toArray) s 0 0 A) (F0 m 5 ls []) := by
    intro nfu
    induction nfu with
    | zero => intro j h1 hn_5; exact absurd hn_5 (Nat.not_lt_zero _)
    | succ nfu ih_5 =>
      intro j h1 hn_5 hj9 hv1 H locs hP hD hS ls hl
      refine lv_iload hx hb dX8_hashOfCells_5 (lv_at hl 0 rfl) ?_
      refine lv_bipush (v := 10) hx hb dX8_hashOfCells_7 (by decide) ?_
      refine lv_icmp_ge (tgt := 65) hx hb dX8_hashOfCells_9 (by decide) (fun c_9 => ?_) (fun c_9 => ?_)
      · refine lv_lload_n hx hb dX8_hashOfCells_65 rfl (lv_at hl 1 rfl) ?_
        exact W.lret (v := h1) hx hb hr (fun t9 ht9 hW9 => ⟨⟨h1, (), rfl, by rw [hv1, show j = 10 by have h := le_of_ge (a := 10) (b := j) (by decide) (by omega) c_9; omega], by rw [ht9]; exact hP, hD⟩, hS.F ht9⟩) hS.2.2 dX8_hashOfCells_66
      · have hj2 : j < 10 := lt_of_nge (a := 10) (b := j) (by decide) (by omega) c_9
        refine lv_iconst (v := 0) hx hb dX8_hashOfCells_12 (by decide) ?_
        refine lv_istore (lv' := [(6, .int 0), (5, .int (nI j)), (3, .long h1), (0, .ref xo), (1, .long xh)]) hx hb dX8_hashOfCells_13 hl (by decide) rfl (fun ls hl => ?_)
        have loop_15 : ∀ (nfu : Nat) (i : Nat) (h2 : Int64) (hn_15 : 20 - i < nfu) (hi9 : i ≤ 20) (hv2 : h2 = hI (fun i h => hL (fun k => (cellF (blkX wbl) glo (nI i) (nI j) k).toInt64) 3 h) i h1) (H : Heap) (locs : List Loc) (hP : va_P D vwCl (oX8 xo w hi sn tx f mm re ro (bI mk) (bI rk) :: oX2 mm mro mfi mle (nI sz) mlo :: aI cI mlo 200 glo :: oX7 w wb ws wc wr wl ww wf :: aI cI wb 10 wbl :: X) H) (hD : va_D A (oX8 xo w hi sn tx f mm re ro (bI mk) (bI rk) :: oX2 mm mro mfi mle (nI sz) mlo :: aI cI mlo 200 glo :: oX7 w wb ws wc wr wl ww wf :: aI cI wb 10 wbl :: X)) (hS : va_S A s.heap H locs) (ls : Array Slot) (hl : lv_has ls 8 [(6, .int (nI i)), (5, .int (nI j)), (3, .long h2), (0, .ref xo), (1, .long xh)]), W p l e ({ frames := 4, cells := 0, slots := 0, locals := 92 } : Room) s m (([.ref xo, .long xh] : List Value).toArray) below meth c H locs 0 0 (MQ below (va_Ql (fun (r : Int64) (u : Unit) => r = hI (fun j h => hI (fun i h => hL (fun k => (cellF (blkX wbl) glo (nI i) (nI j) k).toInt64) 3 h) 20 h) 10 xh) (fun (u : Unit) t => wq D A (oX8 xo w hi sn tx f mm re ro (bI mk) (bI rk) :: oX2 mm mro mfi mle (nI sz) mlo :: aI cI mlo 200 glo :: oX7 w wb ws wc wr wl ww wf :: aI cI wb 10 wbl :: X) t) A) (([.ref xo, .long xh] : List Value).toArray) s 0 0 A) (F0 m 15 ls []) := by
          intro nfu
          induction nfu with
          | zero => intro i h2 hn_15; exact absurd hn_15 (Nat.not_lt_zero _)
          | succ nfu ih_15 =>
            intro i h2 hn_15 hi9 hv2 H locs hP hD hS ls hl
            refine lv_iload hx hb dX8_hashOfCells_15 (lv_at hl 0 rfl) ?_
            refine lv_bipush (v := 20) hx hb dX8_hashOfCells_17 (by decide) ?_
            refine lv_icmp_ge (tgt := 59) hx hb dX8_hashOfCells_19 (by decide) (fun c_19 => ?_) (fun c_19 => ?_)
            · refine lv_iinc (v := (nI (j + 1))) (lv' := [(5, .int (nI (j + 1))), (6, .int (nI i)), (3, .long h2), (0, .ref xo), (1, .long xh)]) hx hb dX8_hashOfCells_59 hl (k := 1) rfl (nI_1 j) (by decide) rfl (fun ls hl => ?_)
              refine lv_goto (tgt := 5) hx hb dX8_hashOfCells_62 (by decide) ?_
              exact ih_5 (j + 1) h2 (by omega) (by omega) (by rw [hv2, show i = 20 by have h := le_of_ge (a := 20) (b := i) (by decide) (by omega) c_19; omega, hv1]; refine Eq.trans ?_ (hI_s _ _ _).symm; rfl) _ _ (hP) (hD) hS _ (lv_sub hl [0, 2, 3, 4] rfl)
            · have hi2 : i < 20 := lt_of_nge (a := 20) (b := i) (by decide) (by omega) c_19
              refine lv_iconst (v := 0) hx hb dX8_hashOfCells_22 (by decide) ?_
              refine lv_istore (lv' := [(7, .int 0), (6, .int (nI i)), (5, .int (nI j)), (3, .long h2), (0, .ref xo), (1, .long xh)]) hx hb dX8_hashOfCells_23 hl (by decide) rfl (fun ls hl => ?_)
              have loop_25 : ∀ (nfu : Nat) (k : Nat) (h3 : Int64) (hn_25 : 3 - k < nfu) (hk9 : k ≤ 3) (hv3 : h3 = hL (fun k => (cellF (blkX wbl) glo (nI i) (nI j) k).toInt64) k h2) (H : Heap) (locs : List Loc) (hP : va_P D vwCl (oX8 xo w hi sn tx f mm re ro (bI mk) (bI rk) :: oX2 mm mro mfi mle (nI sz) mlo :: aI cI mlo 200 glo :: oX7 w wb ws wc wr wl ww wf :: aI cI wb 10 wbl :: X) H) (hD : va_D A (oX8 xo w hi sn tx f mm re ro (bI mk) (bI rk) :: oX2 mm mro mfi mle (nI sz) mlo :: aI cI mlo 200 glo :: oX7 w wb ws wc wr wl ww wf :: aI cI wb 10 wbl :: X)) (hS : va_S A s.heap H locs) (ls : Array Slot) (hl : lv_has ls 8 [(7, .int (nI k)), (6, .int (nI i)), (5, .int (nI j)), (3, .long h3), (0, .ref xo), (1, .long xh)]), W p l e ({ frames := 4, cells := 0, slots := 0, locals := 92 } : Room) s m (([.ref xo, .long xh] : List Value).toArray) below meth c H locs 0 0 (MQ below (va_Ql (fun (r : Int64) (u : Unit) => r = hI (fun j h => hI (fun i h => hL (fun k => (cellF (blkX wbl) glo (nI i) (nI j) k).toInt64) 3 h) 20 h) 10 xh) (fun (u : Unit) t => wq D A (oX8 xo w hi sn tx f mm re ro (bI mk) (bI rk) :: oX2 mm mro mfi mle (nI sz) mlo :: aI cI mlo 200 glo :: oX7 w wb ws wc wr wl ww wf :: aI cI wb 10 wbl :: X) t) A) (([.ref xo, .long xh] : List Value).toArray) s 0 0 A) (F0 m 25 ls []) := by
                intro nfu
                induction nfu with
                | zero => intro k h3 hn_25; exact absurd hn_25 (Nat.not_lt_zero _)
                | succ nfu ih_25 =>
                  intro k h3 hn_25 hk9 hv3 H locs hP hD hS ls hl
                  refine lv_iload hx hb dX8_hashOfCells_25 (lv_at hl 0 rfl) ?_
                  refine lv_iconst (v := 2) hx hb dX8_hashOfCells_27 (by decide) ?_
                  refine lv_icmp_gt (tgt := 53) hx hb dX8_hashOfCells_28 (by decide) (fun c_28 => ?_) (fun c_28 => ?_)
                  · refine lv_iinc (v := (nI (i + 1))) (lv' := [(6, .int (nI (i + 1))), (7, .int (nI k)), (5, .int (nI j)), (3, .long h3), (0, .ref xo), (1, .long xh)]) hx hb dX8_hashOfCells_53 hl (k := 1) rfl (nI_1 i) (by decide) rfl (fun ls hl => ?_)
                    refine lv_goto (tgt := 15) hx hb dX8_hashOfCells_56 (by decide) ?_
                    exact ih_15 (i + 1) h3 (by omega) (by omega) (by rw [hv3, show k = 3 by have h := lt_of_lt (a := 2) (b := k) (by decide) (by omega) c_28; omega, hv2]; refine Eq.trans ?_ (hI_s _ _ _).symm; rfl) _ _ (hP) (hD) hS _ (lv_sub hl [0, 2, 3, 4, 5] rfl)
                  · have hk2 : k ≤ 2 := le_of_nlt (a := 2) (b := k) (by decide) (by omega) c_28
                    refine lv_lload_n hx hb dX8_hashOfCells_31 rfl (lv_at hl 3 rfl) ?_
                    refine lv_aload_n hx hb dX8_hashOfCells_32 rfl (lv_at hl 4 rfl) ?_
                    refine lv_iload hx hb dX8_hashOfCells_33 (lv_at hl 1 rfl) ?_
                    refine lv_iload hx hb dX8_hashOfCells_35 (lv_at hl 2 rfl) ?_
                    refine lv_iload hx hb dX8_hashOfCells_37 (lv_at hl 0 rfl) ?_
                    refine cV_i CF hK hN hA hS (cut_of 5 [0, 1, 2, 3, 4] hP hD rfl rfl rfl) (m_cellNumber l D cI cZ cW cJ A (X) xo hi sn tx f mm re ro mk rk mro mfi mle mlo glo sz w wb ws wc wr wl ww wf wbl (nI i) (nI j) k (by omega)) (cwV 3 hts gX8_hashOfCells_X8_cellNumber rfl rfl rfl (by decide +kernel) ⟨Nat.le_of_ble_eq_true rfl, Nat.le_of_ble_eq_true rfl⟩) (As := [.int (nI i), .int (nI j), .int (nI k)]) (rest := [.long h3]) (ci := 8) (q0 := 0) rfl rfl rfl hl.1 rfl (Nat.le_of_ble_eq_true rfl) dX8_hashOfCells_39 ⟨Nat.le_of_ble_eq_true rfl, Nat.le_of_ble_eq_true rfl⟩ (fun r_39 _ H locs hq hP hD hS => ?_)
                    have hq : r_39 = cellF (blkX wbl) glo (nI i) (nI j) k := hq
                    subst hq
                    have hP : va_P D vwCl (oX8 xo w hi sn tx f mm re ro (bI mk) (bI rk) :: oX2 mm mro mfi mle (nI sz) mlo :: aI cI mlo 200 glo :: oX7 w wb ws wc wr wl ww wf :: aI cI wb 10 wbl :: X) H := pm_P hP 5 [0, 1, 2, 3, 4] rfl
                    have hD : va_D A (oX8 xo w hi sn tx f mm re ro (bI mk) (bI rk) :: oX2 mm mro mfi mle (nI sz) mlo :: aI cI mlo 200 glo :: oX7 w wb ws wc wr wl ww wf :: aI cI wb 10 wbl :: X) := pm_D hD 5 [0, 1, 2, 3, 4] rfl rfl rfl
                    refine lv_i2l (v := ((cellF (blkX wbl) glo (nI i) (nI j) k)).toInt64) hx hb dX8_hashOfCells_42 rfl ?_
                    refine cS_l CF hK hN hA hS (cut_of 5 [0, 1, 2, 3, 4] hP hD rfl rfl rfl) (m_joined l D cI cZ cW cJ A (oX8 xo w hi sn tx f mm re ro (bI mk) (bI rk) :: oX2 mm mro mfi mle (nI sz) mlo :: aI cI mlo 200 glo :: oX7 w wb ws wc wr wl ww wf :: aI cI wb 10 wbl :: X) h3 (((cellF (blkX wbl) glo (nI i) (nI j) k)).toInt64)) (va_cwS 2 hts gX8_hashOfCells_X8_joined rfl rfl rfl (by decide +kernel) ⟨Nat.le_of_ble_eq_true rfl, Nat.le_of_ble_eq_true rfl⟩) (As := [.long h3, .long (((cellF (blkX wbl) glo (nI i) (nI j) k)).toInt64)]) (rest := []) rfl hl.1 rfl (Nat.le_of_ble_eq_true rfl) dX8_hashOfCells_43 ⟨Nat.le_of_ble_eq_true rfl, Nat.le_of_ble_eq_true rfl⟩ (fun r_43 _ H locs hq hP hD hS => ?_)
                    have hq : r_43 = mxL h3 (((cellF (blkX wbl) glo (nI i) (nI j) k)).toInt64) := hq
                    subst hq
                    have hP : va_P D vwCl (oX8 xo w hi sn tx f mm re ro (bI mk) (bI rk) :: oX2 mm mro mfi mle (nI sz) mlo :: aI cI mlo 200 glo :: oX7 w wb ws wc wr wl ww wf :: aI cI wb 10 wbl :: X) H := pm_P hP 5 [0, 1, 2, 3, 4] rfl
                    have hD : va_D A (oX8 xo w hi sn tx f mm re ro (bI mk) (bI rk) :: oX2 mm mro mfi mle (nI sz) mlo :: aI cI mlo 200 glo :: oX7 w wb ws wc wr wl ww wf :: aI cI wb 10 wbl :: X) := pm_D hD 5 [0, 1, 2, 3, 4] rfl rfl rfl
                    refine lv_lstore_n (lv' := [(3, .long (mxL h3 (((cellF (blkX wbl) glo (nI i) (nI j) k)).toInt64))), (7, .int (nI k)), (6, .int (nI i)), (5, .int (nI j)), (0, .ref xo), (1, .long xh)]) hx hb dX8_hashOfCells_46 rfl hl (by decide) rfl (fun ls hl => ?_)
                    refine lv_iinc (v := (nI (k + 1))) (lv' := [(7, .int (nI (k + 1))), (3, .long (mxL h3 (((cellF (blkX wbl) glo (nI i) (nI j) k)).toInt64))), (6, .int (nI i)), (5, .int (nI j)), (0, .ref xo), (1, .long xh)]) hx hb dX8_hashOfCells_47 hl (k := 1) rfl (nI_1 k) (by decide) rfl (fun ls hl => ?_)
                    refine lv_goto (tgt := 25) hx hb dX8_hashOfCells_50 (by decide) ?_
                    exact ih_25 (k + 1) (mxL h3 (((cellF (blkX wbl) glo (nI i) (nI j) k)).toInt64)) (by omega) (by omega) (by rw [hv3]; exact (hL_s _ _ _).symm) _ _ (hP) (hD) hS _ (lv_sub hl [0, 2, 3, 1, 4, 5] rfl)
              exact loop_25 _ 0 h2 (Nat.lt_succ_self _) (Nat.zero_le _) (rfl) _ _ hP hD hS _ (lv_sub hl [0, 1, 2, 3, 4, 5] rfl)
        exact loop_15 _ 0 h1 (Nat.lt_succ_self _) (Nat.zero_le _) (rfl) _ _ hP hD hS _ (lv_sub hl [0, 1, 2, 3, 4] rfl)
  exact loop_5 _ 0 xh (Nat.lt_succ_self _) (Nat.zero_le _) (rfl) _ _ hP hD hS _ (lv_sub hl [0, 1, 2, 3] rfl)
set_option maxHeartbeats 4000000 in
set_option maxRecDepth 100000 in
theorem m_hashLedges (l : Launch) (D : va_G) (cI cZ cW cJ : ClassId) (A : Nat → Prop) (X : va_W) (xo hi sn tx f mm re ro : Nat) (mk rk : Bool) (mro mfi mle mlo : Nat) (gro gfi gle glo : Nat → Int32) (sz : Nat) (w wb ws : Nat) (wc wr wl ww wf : Int32) (rog rsp rqu rta : Nat) (rut : Int32) (gsp : Nat → Int32) (gta : Nat → Int32) (rl rf : Nat) (glr : Nat → Int32) (ow : Nat) (xh : Int64) (hsz : sz ≤ 100) (how : ow < 100) (hlw : laX glo wc wr = nI ow) : Met l yX8_hashOfLedges wsX8_hashOfLedges ({ frames := 5, cells := 0, slots := 0, locals := 113 }) (va_Pc [.ref xo, .long xh] (wd D (tyL cI cZ cW cJ) A (oX8 xo w hi sn tx f mm re ro (bI mk) (bI rk) :: oX2 mm mro mfi mle (nI sz) mlo :: aI cI mro 100 gro :: aI cI mfi 100 gfi :: aI cI mle 100 gle :: aI cI mlo 200 glo :: oX7 w wb ws wc wr wl ww wf :: oX5 ro rog rsp rqu rta rut :: aI cI rsp 400 gsp :: aI cI rta 10000 gta :: oX4 re (nI sz) rl rf :: aI cI rl 10000 glr :: X))) (va_Ql (fun (r : Int64) (u : Unit) => r = hI (fun a h => mxI (mxI (hL (fun k => (ledgeF gro gfi gle glr sz a k).toInt64) 6 h) (gsp (100 * 3 + a))) (gta (100 * ow + a))) sz xh) (fun (u : Unit) t => wq D A (oX8 xo w hi sn tx f mm re ro (bI mk) (bI rk) :: oX2 mm mro mfi mle (nI sz) mlo :: aI cI mro 100 gro :: aI cI mfi 100 gfi :: aI cI mle 100 gle :: aI cI mlo 200 glo :: oX7 w wb ws wc wr wl ww wf :: oX5 ro rog rsp rqu rta rut :: aI cI rsp 400 gsp :: aI cI rta 10000 gta :: oX4 re (nI sz) rl rf :: aI cI rl 10000 glr :: X) t) A) 0 0 A := by
  refine Met.ofW (cc := cX8_hashOfLedges) (maxL := 8) (ret := (some .long)) (by decide) rfl ?_
  intro p e s m args below meth c s₁ B hml hv
  obtain ⟨rfl, hsz9, hP, hK, hD, hN⟩ := hv
  have hx := B.exec
  have hb := B.bytes
  have hr := B.returns
  have hts := atoms_spec (ws := wsX8_hashOfLedges) B.pre
  have hown : s.vm.findClass RX8 = some m.cls := findClass_of_methodNamed B.named
  have hlocks := B.notSynchronized
  have CF : CallFix p m c cX8_hashOfLedges 8 s _ wsX8_hashOfLedges RX8 := ⟨hx, hb, hml, hown, hts⟩
  have hA : ∀ q : Nat, s.heap.size ≤ q → A q := hsz9
  have hS : va_S A s.heap s.heap [] := va_S.rf
  have hiX2 : ∀ w ∈ u_ws RX2 TX2 5, w ∈ wsX8_hashOfLedges := fun _ h => List.mem_cons_of_mem _ (List.mem_append_left _ (List.mem_append_left _ (List.mem_append_left _ (List.mem_append_right _ (h)))))
  have hiX8 : ∀ w ∈ u_ws RX8 TX8 10, w ∈ wsX8_hashOfLedges := fun _ h => List.mem_cons_of_mem _ (List.mem_append_left _ (List.mem_append_left _ (List.mem_append_left _ (List.mem_append_left _ (List.mem_append_right _ (h))))))
  have hl := lv_entry ([.ref xo, .long xh]) (n := 8) (Nat.le_of_ble_eq_true rfl)
  rw [lg_entry_eq]
  generalize (lg_sl ([.ref xo, .long xh]) ++ List.replicate (8 - (lg_sl ([.ref xo, .long xh])).length) Slot.unset).toArray = ls at hl ⊢
  have hl : lv_has ls 8 [(0, .ref xo), (1, .long xh)] := hl
  show W p l e ({ frames := 5, cells := 0, slots := 0, locals := 113 } : Room) s m (([.ref xo, .long xh] : List Value).toArray) below meth c s.heap [] 0 0 (MQ below (va_Ql (fun (r : Int64) (u : Unit) => r = hI (fun a h => mxI (mxI (hL (fun k => (ledgeF gro gfi gle glr sz a k).toInt64) 6 h) (gsp (100 * 3 + a))) (gta (100 * ow + a))) sz xh) (fun (u : Unit) t => wq D A (oX8 xo w hi sn tx f mm re ro (bI mk) (bI rk) :: oX2 mm mro mfi mle (nI sz) mlo :: aI cI mro 100 gro :: aI cI mfi 100 gfi :: aI cI mle 100 gle :: aI cI mlo 200 glo :: oX7 w wb ws wc wr wl ww wf :: oX5 ro rog rsp rqu rta rut :: aI cI rsp 400 gsp :: aI cI rta 10000 gta :: oX4 re (nI sz) rl rf :: aI cI rl 10000 glr :: X) t) A) (([.ref xo, .long xh] : List Value).toArray) s 0 0 A) (F0 m 0 ls [])
  refine lv_lload_n hx hb dX8_hashOfLedges_0 rfl (lv_at hl 1 rfl) ?_
  refine lv_lstore_n (lv' := [(3, .long xh), (0, .ref xo), (1, .long xh)]) hx hb dX8_hashOfLedges_1 rfl hl (by decide) rfl (fun ls hl => ?_)
  refine lv_aload_n hx hb dX8_hashOfLedges_2 rfl (lv_at hl 1 rfl) ?_
  refine cV_i CF hK hN hA hS (cut_of 12 [0, 1, 5, 6, 2, 3, 4, 7, 8, 9, 10, 11] hP hD rfl rfl rfl) (m_runnersLedge l D cI cZ cW cJ A (aI cI mro 100 gro :: aI cI mfi 100 gfi :: aI cI mle 100 gle :: oX5 ro rog rsp rqu rta rut :: aI cI rsp 400 gsp :: aI cI rta 10000 gta :: oX4 re (nI sz) rl rf :: aI cI rl 10000 glr :: X) xo hi sn tx f mm re ro mk rk mro mfi mle mlo glo sz w wb ws wc wr wl ww wf) (cwV 0 hts gX8_hashOfLedges_X8_runnersLedge rfl rfl rfl (by decide +kernel) ⟨Nat.le_of_ble_eq_true rfl, Nat.le_of_ble_eq_true rfl⟩) (As := []) (rest := []) (ci := 8) (q0 := 0) rfl rfl rfl hl.1 rfl (Nat.le_of_ble_eq_true rfl) dX8_hashOfLedges_3 ⟨Nat.le_of_ble_eq_true rfl, Nat.le_of_ble_eq_true rfl⟩ (fun r_3 _ H locs hq hP hD hS => ?_)
  have hq : r_3 = laX glo wc wr := hq
  subst hq
  have hP : va_P D vwCl (oX8 xo w hi sn tx f mm re ro (bI mk) (bI rk) :: oX2 mm mro mfi mle (nI sz) mlo :: aI cI mro 100 gro :: aI cI mfi 100 gfi :: aI cI mle 100 gle :: aI cI mlo 200 glo :: oX7 w wb ws wc wr wl ww wf :: oX5 ro rog rsp rqu rta rut :: aI cI rsp 400 gsp :: aI cI rta 10000 gta :: oX4 re (nI sz) rl rf :: aI cI rl 10000 glr :: X) H := pm_P hP 12 [0, 1, 4, 5, 6, 2, 3, 7, 8, 9, 10, 11] rfl
  have hD : va_D A (oX8 xo w hi sn tx f mm re ro (bI mk) (bI rk) :: oX2 mm mro mfi mle (nI sz) mlo :: aI cI mro 100 gro :: aI cI mfi 100 gfi :: aI cI mle 100 gle :: aI cI mlo 200 glo :: oX7 w wb ws wc wr wl ww wf :: oX5 ro rog rsp rqu rta rut :: aI cI rsp 400 gsp :: aI cI rta 10000 gta :: oX4 re (nI sz) rl rf :: aI cI rl 10000 glr :: X) := pm_D hD 12 [0, 1, 4, 5, 6, 2, 3, 7, 8, 9, 10, 11] rfl rfl rfl
  refine top_i (y := (nI ow)) hlw ?_
  refine lv_istore (lv' := [(5, .int (nI ow)), (3, .long xh), (0, .ref xo), (1, .long xh)]) hx hb dX8_hashOfLedges_6 hl (by decide) rfl (fun ls hl => ?_)
  refine lv_iconst (v := 0) hx hb dX8_hashOfLedges_8 (by decide) ?_
  refine lv_istore (lv' := [(6, .int 0), (5, .int (nI ow)), (3, .long xh), (0, .ref xo), (1, .long xh)]) hx hb dX8_hashOfLedges_9 hl (by decide) rfl (fun ls hl => ?_)
  have loop_11 : ∀ (nfu : Nat) (a : Nat) (h1 : Int64) (hn_11 : sz - a < nfu) (ha9 : a ≤ sz) (hv1 : h1 = hI (fun a h => mxI (mxI (hL (fun k => (ledgeF gro gfi gle glr sz a k).toInt64) 6 h) (gsp (100 * 3 + a))) (gta (100 * ow + a))) a xh) (H : Heap) (locs : List Loc) (hP : va_P D vwCl (oX8 xo w hi sn tx f mm re ro (bI mk) (bI rk) :: oX2 mm mro mfi mle (nI sz) mlo :: aI cI mro 100 gro :: aI cI mfi 100 gfi :: aI cI mle 100 gle :: aI cI mlo 200 glo :: oX7 w wb ws wc wr wl ww wf :: oX5 ro rog rsp rqu rta rut :: aI cI rsp 400 gsp :: aI cI rta 10000 gta :: oX4 re (nI sz) rl rf :: aI cI rl 10000 glr :: X) H) (hD : va_D A (oX8 xo w hi sn tx f mm re ro (bI mk) (bI rk) :: oX2 mm mro mfi mle (nI sz) mlo :: aI cI mro 100 gro :: aI cI mfi 100 gfi :: aI cI mle 100 gle :: aI cI mlo 200 glo :: oX7 w wb ws wc wr wl ww wf :: oX5 ro rog rsp rqu rta rut :: aI cI rsp 400 gsp :: aI cI rta 10000 gta :: oX4 re (nI sz) rl rf :: aI cI rl 10000 glr :: X)) (hS : va_S A s.heap H locs) (ls : Array Slot) (hl : lv_has ls 8 [(6, .int (nI a)), (5, .int (nI ow)), (3, .long h1), (0, .ref xo), (1, .long xh)]), W p l e ({ frames := 5, cells := 0, slots := 0, locals := 113 } : Room) s m (([.ref xo, .long xh] : List Value).toArray) below meth c H locs 0 0 (MQ below (va_Ql (fun (r : Int64) (u : Unit) => r = hI (fun a h => mxI (mxI (hL (fun k => (ledgeF gro gfi gle glr sz a k).toInt64) 6 h) (gsp (100 * 3 + a))) (gta (100 * ow + a))) sz xh) (fun (u : Unit) t => wq D A (oX8 xo w hi sn tx f mm re ro (bI mk) (bI rk) :: oX2 mm mro mfi mle (nI sz) mlo :: aI cI mro 100 gro :: aI cI mfi 100 gfi :: aI cI mle 100 gle :: aI cI mlo 200 glo :: oX7 w wb ws wc wr wl ww wf :: oX5 ro rog rsp rqu rta rut :: aI cI rsp 400 gsp :: aI cI rta 10000 gta :: oX4 re (nI sz) rl rf :: aI cI rl 10000 glr :: X) t) A) (([.ref xo, .long xh] : List Value).toArray) s 0 0 A) (F0 m 11 ls []) := by
    intro nfu
    induction nfu with
    | zero => intro a h1 hn_11; exact absurd hn_11 (Nat.not_lt_zero _)
    | succ nfu ih_11 =>
      intro a h1 hn_11 ha9 hv1 H locs hP hD hS ls hl
      refine lv_iload hx hb dX8_hashOfLedges_11 (lv_at hl 0 rfl) ?_
      refine lv_aload_n hx hb dX8_hashOfLedges_13 rfl (lv_at hl 3 rfl) ?_
      refine va_get (D := D) (ci := 8) (v := .ref mm) (C := RX8) (T := TX8) (N := 10) hx hb hts hiX8 hown hK hP 0 rfl rfl 5 (by decide) (hts (.fieldLink RX8 47 "LedgeLeaps" "map" "LLedgeLeaps$LedgeMap;") (List.mem_of_getElem? (i := 1) rfl)) (fun _ h9 => h9) rfl dX8_hashOfLedges_14 ?_
      refine va_get (D := D) (ci := 2) (v := .int (nI sz)) (C := RX2) (T := TX2) (N := 5) hx hb hts hiX2 hown hK hP 1 rfl rfl 3 (by decide) (hts (.fieldLink RX8 370 "LedgeLeaps$LedgeMap" "size" "I") (List.mem_of_getElem? (i := 2) rfl)) (fun _ h9 => h9) rfl dX8_hashOfLedges_17 ?_
      refine lv_icmp_ge (tgt := 92) hx hb dX8_hashOfLedges_20 (by decide) (fun c_20 => ?_) (fun c_20 => ?_)
      · refine lv_lload_n hx hb dX8_hashOfLedges_92 rfl (lv_at hl 2 rfl) ?_
        exact W.lret (v := h1) hx hb hr (fun t9 ht9 hW9 => ⟨⟨h1, (), rfl, by rw [hv1, show a = sz by have h := le_of_ge (a := sz) (b := a) (by omega) (by omega) c_20; omega], by rw [ht9]; exact hP, hD⟩, hS.F ht9⟩) hS.2.2 dX8_hashOfLedges_93
      · have ha2 : a < sz := lt_of_nge (a := sz) (b := a) (by omega) (by omega) c_20
        refine lv_iconst (v := 0) hx hb dX8_hashOfLedges_23 (by decide) ?_
        refine lv_istore (lv' := [(7, .int 0), (6, .int (nI a)), (5, .int (nI ow)), (3, .long h1), (0, .ref xo), (1, .long xh)]) hx hb dX8_hashOfLedges_24 hl (by decide) rfl (fun ls hl => ?_)
        have loop_26 : ∀ (nfu : Nat) (k : Nat) (h2 : Int64) (hn_26 : 6 - k < nfu) (hk9 : k ≤ 6) (hv2 : h2 = hL (fun k => (ledgeF gro gfi gle glr sz a k).toInt64) k h1) (H : Heap) (locs : List Loc) (hP : va_P D vwCl (oX8 xo w hi sn tx f mm re ro (bI mk) (bI rk) :: oX2 mm mro mfi mle (nI sz) mlo :: aI cI mro 100 gro :: aI cI mfi 100 gfi :: aI cI mle 100 gle :: aI cI mlo 200 glo :: oX7 w wb ws wc wr wl ww wf :: oX5 ro rog rsp rqu rta rut :: aI cI rsp 400 gsp :: aI cI rta 10000 gta :: oX4 re (nI sz) rl rf :: aI cI rl 10000 glr :: X) H) (hD : va_D A (oX8 xo w hi sn tx f mm re ro (bI mk) (bI rk) :: oX2 mm mro mfi mle (nI sz) mlo :: aI cI mro 100 gro :: aI cI mfi 100 gfi :: aI cI mle 100 gle :: aI cI mlo 200 glo :: oX7 w wb ws wc wr wl ww wf :: oX5 ro rog rsp rqu rta rut :: aI cI rsp 400 gsp :: aI cI rta 10000 gta :: oX4 re (nI sz) rl rf :: aI cI rl 10000 glr :: X)) (hS : va_S A s.heap H locs) (ls : Array Slot) (hl : lv_has ls 8 [(7, .int (nI k)), (6, .int (nI a)), (5, .int (nI ow)), (3, .long h2), (0, .ref xo), (1, .long xh)]), W p l e ({ frames := 5, cells := 0, slots := 0, locals := 113 } : Room) s m (([.ref xo, .long xh] : List Value).toArray) below meth c H locs 0 0 (MQ below (va_Ql (fun (r : Int64) (u : Unit) => r = hI (fun a h => mxI (mxI (hL (fun k => (ledgeF gro gfi gle glr sz a k).toInt64) 6 h) (gsp (100 * 3 + a))) (gta (100 * ow + a))) sz xh) (fun (u : Unit) t => wq D A (oX8 xo w hi sn tx f mm re ro (bI mk) (bI rk) :: oX2 mm mro mfi mle (nI sz) mlo :: aI cI mro 100 gro :: aI cI mfi 100 gfi :: aI cI mle 100 gle :: aI cI mlo 200 glo :: oX7 w wb ws wc wr wl ww wf :: oX5 ro rog rsp rqu rta rut :: aI cI rsp 400 gsp :: aI cI rta 10000 gta :: oX4 re (nI sz) rl rf :: aI cI rl 10000 glr :: X) t) A) (([.ref xo, .long xh] : List Value).toArray) s 0 0 A) (F0 m 26 ls []) := by
          intro nfu
          induction nfu with
          | zero => intro k h2 hn_26; exact absurd hn_26 (Nat.not_lt_zero _)
          | succ nfu ih_26 =>
            intro k h2 hn_26 hk9 hv2 H locs hP hD hS ls hl
            refine lv_iload hx hb dX8_hashOfLedges_26 (lv_at hl 0 rfl) ?_
            refine lv_bipush (v := 6) hx hb dX8_hashOfLedges_28 (by decide) ?_
            refine lv_icmp_ge (tgt := 53) hx hb dX8_hashOfLedges_30 (by decide) (fun c_30 => ?_) (fun c_30 => ?_)
            · refine lv_lload_n hx hb dX8_hashOfLedges_53 rfl (lv_at hl 3 rfl) ?_
              refine lv_aload_n hx hb dX8_hashOfLedges_54 rfl (lv_at hl 4 rfl) ?_
              refine va_get (D := D) (ci := 8) (v := .ref ro) (C := RX8) (T := TX8) (N := 10) hx hb hts hiX8 hown hK hP 0 rfl rfl 7 (by decide) (hts (.fieldLink RX8 61 "LedgeLeaps" "routes" "LLedgeLeaps$Routes;") (List.mem_of_getElem? (i := 3) rfl)) (fun _ h9 => h9) rfl dX8_hashOfLedges_55 ?_
              refine lv_iload hx hb dX8_hashOfLedges_58 (lv_at hl 1 rfl) ?_
              refine lv_iconst (v := 3) hx hb dX8_hashOfLedges_60 (by decide) ?_
              refine cV_i CF hK hN hA hS (cut_of 12 [7, 8, 0, 1, 2, 3, 4, 5, 6, 9, 10, 11] hP hD rfl rfl rfl) (m_bySpread l D cI cZ cW cJ A (oX8 xo w hi sn tx f mm re ro (bI mk) (bI rk) :: oX2 mm mro mfi mle (nI sz) mlo :: aI cI mro 100 gro :: aI cI mfi 100 gfi :: aI cI mle 100 gle :: aI cI mlo 200 glo :: oX7 w wb ws wc wr wl ww wf :: aI cI rta 10000 gta :: oX4 re (nI sz) rl rf :: aI cI rl 10000 glr :: X) ro rog rsp rqu rta rut gsp a 3 (by omega) (by decide)) (cwV 2 hts gX8_hashOfLedges_X5_leapsBySpreading rfl rfl rfl (by decide +kernel) ⟨Nat.le_of_ble_eq_true rfl, Nat.le_of_ble_eq_true rfl⟩) (As := [.int (nI a), .int 3]) (rest := [.long h2]) (ci := 5) (q0 := 0) rfl rfl rfl hl.1 rfl (Nat.le_of_ble_eq_true rfl) dX8_hashOfLedges_61 ⟨Nat.le_of_ble_eq_true rfl, Nat.le_of_ble_eq_true rfl⟩ (fun r_61 _ H locs hq hP hD hS => ?_)
              have hq : r_61 = gsp (100 * 3 + a) := hq
              subst hq
              have hP : va_P D vwCl (oX8 xo w hi sn tx f mm re ro (bI mk) (bI rk) :: oX2 mm mro mfi mle (nI sz) mlo :: aI cI mro 100 gro :: aI cI mfi 100 gfi :: aI cI mle 100 gle :: aI cI mlo 200 glo :: oX7 w wb ws wc wr wl ww wf :: oX5 ro rog rsp rqu rta rut :: aI cI rsp 400 gsp :: aI cI rta 10000 gta :: oX4 re (nI sz) rl rf :: aI cI rl 10000 glr :: X) H := pm_P hP 12 [2, 3, 4, 5, 6, 7, 8, 0, 1, 9, 10, 11] rfl
              have hD : va_D A (oX8 xo w hi sn tx f mm re ro (bI mk) (bI rk) :: oX2 mm mro mfi mle (nI sz) mlo :: aI cI mro 100 gro :: aI cI mfi 100 gfi :: aI cI mle 100 gle :: aI cI mlo 200 glo :: oX7 w wb ws wc wr wl ww wf :: oX5 ro rog rsp rqu rta rut :: aI cI rsp 400 gsp :: aI cI rta 10000 gta :: oX4 re (nI sz) rl rf :: aI cI rl 10000 glr :: X) := pm_D hD 12 [2, 3, 4, 5, 6, 7, 8, 0, 1, 9, 10, 11] rfl rfl rfl
              refine lv_i2l (v := ((gsp (100 * 3 + a))).toInt64) hx hb dX8_hashOfLedges_64 rfl ?_
              refine cS_l CF hK hN hA hS (cut_of 12 [0, 1, 2, 3, 4, 5, 6, 7, 8, 9, 10, 11] hP hD rfl rfl rfl) (m_joined l D cI cZ cW cJ A (oX8 xo w hi sn tx f mm re ro (bI mk) (bI rk) :: oX2 mm mro mfi mle (nI sz) mlo :: aI cI mro 100 gro :: aI cI mfi 100 gfi :: aI cI mle 100 gle :: aI cI mlo 200 glo :: oX7 w wb ws wc wr wl ww wf :: oX5 ro rog rsp rqu rta rut :: aI cI rsp 400 gsp :: aI cI rta 10000 gta :: oX4 re (nI sz) rl rf :: aI cI rl 10000 glr :: X) h2 (((gsp (100 * 3 + a))).toInt64)) (va_cwS 2 hts gX8_hashOfLedges_X8_joined rfl rfl rfl (by decide +kernel) ⟨Nat.le_of_ble_eq_true rfl, Nat.le_of_ble_eq_true rfl⟩) (As := [.long h2, .long (((gsp (100 * 3 + a))).toInt64)]) (rest := []) rfl hl.1 rfl (Nat.le_of_ble_eq_true rfl) dX8_hashOfLedges_65 ⟨Nat.le_of_ble_eq_true rfl, Nat.le_of_ble_eq_true rfl⟩ (fun r_65 _ H locs hq hP hD hS => ?_)
              have hq : r_65 = mxL h2 (((gsp (100 * 3 + a))).toInt64) := hq
              subst hq
              have hP : va_P D vwCl (oX8 xo w hi sn tx f mm re ro (bI mk) (bI rk) :: oX2 mm mro mfi mle (nI sz) mlo :: aI cI mro 100 gro :: aI cI mfi 100 gfi :: aI cI mle 100 gle :: aI cI mlo 200 glo :: oX7 w wb ws wc wr wl ww wf :: oX5 ro rog rsp rqu rta rut :: aI cI rsp 400 gsp :: aI cI rta 10000 gta :: oX4 re (nI sz) rl rf :: aI cI rl 10000 glr :: X) H := pm_P hP 12 [0, 1, 2, 3, 4, 5, 6, 7, 8, 9, 10, 11] rfl
              have hD : va_D A (oX8 xo w hi sn tx f mm re ro (bI mk) (bI rk) :: oX2 mm mro mfi mle (nI sz) mlo :: aI cI mro 100 gro :: aI cI mfi 100 gfi :: aI cI mle 100 gle :: aI cI mlo 200 glo :: oX7 w wb ws wc wr wl ww wf :: oX5 ro rog rsp rqu rta rut :: aI cI rsp 400 gsp :: aI cI rta 10000 gta :: oX4 re (nI sz) rl rf :: aI cI rl 10000 glr :: X) := pm_D hD 12 [0, 1, 2, 3, 4, 5, 6, 7, 8, 9, 10, 11] rfl rfl rfl
              refine lv_lstore_n (lv' := [(3, .long (mxL h2 (((gsp (100 * 3 + a))).toInt64))), (7, .int (nI k)), (6, .int (nI a)), (5, .int (nI ow)), (0, .ref xo), (1, .long xh)]) hx hb dX8_hashOfLedges_68 rfl hl (by decide) rfl (fun ls hl => ?_)
              refine lv_lload_n hx hb dX8_hashOfLedges_69 rfl (lv_at hl 0 rfl) ?_
              refine lv_aload_n hx hb dX8_hashOfLedges_70 rfl (lv_at hl 4 rfl) ?_
              refine va_get (D := D) (ci := 8) (v := .ref ro) (C := RX8) (T := TX8) (N := 10) hx hb hts hiX8 hown hK hP 0 rfl rfl 7 (by decide) (hts (.fieldLink RX8 61 "LedgeLeaps" "routes" "LLedgeLeaps$Routes;") (List.mem_of_getElem? (i := 3) rfl)) (fun _ h9 => h9) rfl dX8_hashOfLedges_71 ?_
              refine lv_iload hx hb dX8_hashOfLedges_74 (lv_at hl 3 rfl) ?_
              refine lv_iload hx hb dX8_hashOfLedges_76 (lv_at hl 2 rfl) ?_
              refine cV_i CF hK hN hA hS (cut_of 12 [7, 9, 0, 1, 2, 3, 4, 5, 6, 8, 10, 11] hP hD rfl rfl rfl) (m_byTable l D cI cZ cW cJ A (oX8 xo w hi sn tx f mm re ro (bI mk) (bI rk) :: oX2 mm mro mfi mle (nI sz) mlo :: aI cI mro 100 gro :: aI cI mfi 100 gfi :: aI cI mle 100 gle :: aI cI mlo 200 glo :: oX7 w wb ws wc wr wl ww wf :: aI cI rsp 400 gsp :: oX4 re (nI sz) rl rf :: aI cI rl 10000 glr :: X) ro rog rsp rqu rta rut gta ow a how (by omega)) (cwV 2 hts gX8_hashOfLedges_X5_leapsByTable rfl rfl rfl (by decide +kernel) ⟨Nat.le_of_ble_eq_true rfl, Nat.le_of_ble_eq_true rfl⟩) (As := [.int (nI ow), .int (nI a)]) (rest := [.long (mxL h2 (((gsp (100 * 3 + a))).toInt64))]) (ci := 5) (q0 := 0) rfl rfl rfl hl.1 rfl (Nat.le_of_ble_eq_true rfl) dX8_hashOfLedges_78 ⟨Nat.le_of_ble_eq_true rfl, Nat.le_of_ble_eq_true rfl⟩ (fun r_78 _ H locs hq hP hD hS => ?_)
              have hq : r_78 = gta (100 * ow + a) := hq
              subst hq
              have hP : va_P D vwCl (oX8 xo w hi sn tx f mm re ro (bI mk) (bI rk) :: oX2 mm mro mfi mle (nI sz) mlo :: aI cI mro 100 gro :: aI cI mfi 100 gfi :: aI cI mle 100 gle :: aI cI mlo 200 glo :: oX7 w wb ws wc wr wl ww wf :: oX5 ro rog rsp rqu rta rut :: aI cI rsp 400 gsp :: aI cI rta 10000 gta :: oX4 re (nI sz) rl rf :: aI cI rl 10000 glr :: X) H := pm_P hP 12 [2, 3, 4, 5, 6, 7, 8, 0, 9, 1, 10, 11] rfl
              have hD : va_D A (oX8 xo w hi sn tx f mm re ro (bI mk) (bI rk) :: oX2 mm mro mfi mle (nI sz) mlo :: aI cI mro 100 gro :: aI cI mfi 100 gfi :: aI cI mle 100 gle :: aI cI mlo 200 glo :: oX7 w wb ws wc wr wl ww wf :: oX5 ro rog rsp rqu rta rut :: aI cI rsp 400 gsp :: aI cI rta 10000 gta :: oX4 re (nI sz) rl rf :: aI cI rl 10000 glr :: X) := pm_D hD 12 [2, 3, 4, 5, 6, 7, 8, 0, 9, 1, 10, 11] rfl rfl rfl
              refine lv_i2l (v := ((gta (100 * ow + a))).toInt64) hx hb dX8_hashOfLedges_81 rfl ?_
              refine cS_l CF hK hN hA hS (cut_of 12 [0, 1, 2, 3, 4, 5, 6, 7, 8, 9, 10, 11] hP hD rfl rfl rfl) (m_joined l D cI cZ cW cJ A (oX8 xo w hi sn tx f mm re ro (bI mk) (bI rk) :: oX2 mm mro mfi mle (nI sz) mlo :: aI cI mro 100 gro :: aI cI mfi 100 gfi :: aI cI mle 100 gle :: aI cI mlo 200 glo :: oX7 w wb ws wc wr wl ww wf :: oX5 ro rog rsp rqu rta rut :: aI cI rsp 400 gsp :: aI cI rta 10000 gta :: oX4 re (nI sz) rl rf :: aI cI rl 10000 glr :: X) (mxL h2 (((gsp (100 * 3 + a))).toInt64)) (((gta (100 * ow + a))).toInt64)) (va_cwS 2 hts gX8_hashOfLedges_X8_joined rfl rfl rfl (by decide +kernel) ⟨Nat.le_of_ble_eq_true rfl, Nat.le_of_ble_eq_true rfl⟩) (As := [.long (mxL h2 (((gsp (100 * 3 + a))).toInt64)), .long (((gta (100 * ow + a))).toInt64)]) (rest := []) rfl hl.1 rfl (Nat.le_of_ble_eq_true rfl) dX8_hashOfLedges_82 ⟨Nat.le_of_ble_eq_true rfl, Nat.le_of_ble_eq_true rfl⟩ (fun r_82 _ H locs hq hP hD hS => ?_)
              have hq : r_82 = mxL (mxL h2 (((gsp (100 * 3 + a))).toInt64)) (((gta (100 * ow + a))).toInt64) := hq
              subst hq
              have hP : va_P D vwCl (oX8 xo w hi sn tx f mm re ro (bI mk) (bI rk) :: oX2 mm mro mfi mle (nI sz) mlo :: aI cI mro 100 gro :: aI cI mfi 100 gfi :: aI cI mle 100 gle :: aI cI mlo 200 glo :: oX7 w wb ws wc wr wl ww wf :: oX5 ro rog rsp rqu rta rut :: aI cI rsp 400 gsp :: aI cI rta 10000 gta :: oX4 re (nI sz) rl rf :: aI cI rl 10000 glr :: X) H := pm_P hP 12 [0, 1, 2, 3, 4, 5, 6, 7, 8, 9, 10, 11] rfl
              have hD : va_D A (oX8 xo w hi sn tx f mm re ro (bI mk) (bI rk) :: oX2 mm mro mfi mle (nI sz) mlo :: aI cI mro 100 gro :: aI cI mfi 100 gfi :: aI cI mle 100 gle :: aI cI mlo 200 glo :: oX7 w wb ws wc wr wl ww wf :: oX5 ro rog rsp rqu rta rut :: aI cI rsp 400 gsp :: aI cI rta 10000 gta :: oX4 re (nI sz) rl rf :: aI cI rl 10000 glr :: X) := pm_D hD 12 [0, 1, 2, 3, 4, 5, 6, 7, 8, 9, 10, 11] rfl rfl rfl
              refine lv_lstore_n (lv' := [(3, .long (mxL (mxL h2 (((gsp (100 * 3 + a))).toInt64)) (((gta (100 * ow + a))).toInt64))), (7, .int (nI k)), (6, .int (nI a)), (5, .int (nI ow)), (0, .ref xo), (1, .long xh)]) hx hb dX8_hashOfLedges_85 rfl hl (by decide) rfl (fun ls hl => ?_)
              refine lv_iinc (v := (nI (a + 1))) (lv' := [(6, .int (nI (a + 1))), (3, .long (mxL (mxL h2 (((gsp (100 * 3 + a))).toInt64)) (((gta (100 * ow + a))).toInt64))), (7, .int (nI k)), (5, .int (nI ow)), (0, .ref xo), (1, .long xh)]) hx hb dX8_hashOfLedges_86 hl (k := 2) rfl (nI_1 a) (by decide) rfl (fun ls hl => ?_)
              refine lv_goto (tgt := 11) hx hb dX8_hashOfLedges_89 (by decide) ?_
              exact ih_11 (a + 1) (mxL (mxL h2 (((gsp (100 * 3 + a))).toInt64)) (((gta (100 * ow + a))).toInt64)) (by omega) (by omega) (by rw [hv2, show k = 6 by have h := le_of_ge (a := 6) (b := k) (by decide) (by omega) c_30; omega, hv1]; refine Eq.trans ?_ (hI_s _ _ _).symm; rfl) _ _ (hP) (hD) hS _ (lv_sub hl [0, 3, 1, 4, 5] rfl)
            · have hk2 : k < 6 := lt_of_nge (a := 6) (b := k) (by decide) (by omega) c_30
              refine lv_lload_n hx hb dX8_hashOfLedges_33 rfl (lv_at hl 3 rfl) ?_
              refine lv_aload_n hx hb dX8_hashOfLedges_34 rfl (lv_at hl 4 rfl) ?_
              refine lv_iload hx hb dX8_hashOfLedges_35 (lv_at hl 1 rfl) ?_
              refine lv_iload hx hb dX8_hashOfLedges_37 (lv_at hl 0 rfl) ?_
              refine cV_i CF hK hN hA hS (cut_of 12 [0, 1, 2, 3, 4, 5, 10, 11, 6, 7, 8, 9] hP hD rfl rfl rfl) (m_ledgeNumber l D cI cZ cW cJ A (oX7 w wb ws wc wr wl ww wf :: oX5 ro rog rsp rqu rta rut :: aI cI rsp 400 gsp :: aI cI rta 10000 gta :: X) xo w hi sn tx f mm re ro mk rk mro mfi mle mlo gro gfi gle glo sz rl rf (nI sz) glr a k hsz ha2 hk2 (fun _ => rfl)) (cwV 2 hts gX8_hashOfLedges_X8_ledgeNumber rfl rfl rfl (by decide +kernel) ⟨Nat.le_of_ble_eq_true rfl, Nat.le_of_ble_eq_true rfl⟩) (As := [.int (nI a), .int (nI k)]) (rest := [.long h2]) (ci := 8) (q0 := 0) rfl rfl rfl hl.1 rfl (Nat.le_of_ble_eq_true rfl) dX8_hashOfLedges_39 ⟨Nat.le_of_ble_eq_true rfl, Nat.le_of_ble_eq_true rfl⟩ (fun r_39 _ H locs hq hP hD hS => ?_)
              have hq : r_39 = ledgeF gro gfi gle glr sz a k := hq
              subst hq
              have hP : va_P D vwCl (oX8 xo w hi sn tx f mm re ro (bI mk) (bI rk) :: oX2 mm mro mfi mle (nI sz) mlo :: aI cI mro 100 gro :: aI cI mfi 100 gfi :: aI cI mle 100 gle :: aI cI mlo 200 glo :: oX7 w wb ws wc wr wl ww wf :: oX5 ro rog rsp rqu rta rut :: aI cI rsp 400 gsp :: aI cI rta 10000 gta :: oX4 re (nI sz) rl rf :: aI cI rl 10000 glr :: X) H := pm_P hP 12 [0, 1, 2, 3, 4, 5, 8, 9, 10, 11, 6, 7] rfl
              have hD : va_D A (oX8 xo w hi sn tx f mm re ro (bI mk) (bI rk) :: oX2 mm mro mfi mle (nI sz) mlo :: aI cI mro 100 gro :: aI cI mfi 100 gfi :: aI cI mle 100 gle :: aI cI mlo 200 glo :: oX7 w wb ws wc wr wl ww wf :: oX5 ro rog rsp rqu rta rut :: aI cI rsp 400 gsp :: aI cI rta 10000 gta :: oX4 re (nI sz) rl rf :: aI cI rl 10000 glr :: X) := pm_D hD 12 [0, 1, 2, 3, 4, 5, 8, 9, 10, 11, 6, 7] rfl rfl rfl
              refine lv_i2l (v := ((ledgeF gro gfi gle glr sz a k)).toInt64) hx hb dX8_hashOfLedges_42 rfl ?_
              refine cS_l CF hK hN hA hS (cut_of 12 [0, 1, 2, 3, 4, 5, 6, 7, 8, 9, 10, 11] hP hD rfl rfl rfl) (m_joined l D cI cZ cW cJ A (oX8 xo w hi sn tx f mm re ro (bI mk) (bI rk) :: oX2 mm mro mfi mle (nI sz) mlo :: aI cI mro 100 gro :: aI cI mfi 100 gfi :: aI cI mle 100 gle :: aI cI mlo 200 glo :: oX7 w wb ws wc wr wl ww wf :: oX5 ro rog rsp rqu rta rut :: aI cI rsp 400 gsp :: aI cI rta 10000 gta :: oX4 re (nI sz) rl rf :: aI cI rl 10000 glr :: X) h2 (((ledgeF gro gfi gle glr sz a k)).toInt64)) (va_cwS 2 hts gX8_hashOfLedges_X8_joined rfl rfl rfl (by decide +kernel) ⟨Nat.le_of_ble_eq_true rfl, Nat.le_of_ble_eq_true rfl⟩) (As := [.long h2, .long (((ledgeF gro gfi gle glr sz a k)).toInt64)]) (rest := []) rfl hl.1 rfl (Nat.le_of_ble_eq_true rfl) dX8_hashOfLedges_43 ⟨Nat.le_of_ble_eq_true rfl, Nat.le_of_ble_eq_true rfl⟩ (fun r_43 _ H locs hq hP hD hS => ?_)
              have hq : r_43 = mxL h2 (((ledgeF gro gfi gle glr sz a k)).toInt64) := hq
              subst hq
              have hP : va_P D vwCl (oX8 xo w hi sn tx f mm re ro (bI mk) (bI rk) :: oX2 mm mro mfi mle (nI sz) mlo :: aI cI mro 100 gro :: aI cI mfi 100 gfi :: aI cI mle 100 gle :: aI cI mlo 200 glo :: oX7 w wb ws wc wr wl ww wf :: oX5 ro rog rsp rqu rta rut :: aI cI rsp 400 gsp :: aI cI rta 10000 gta :: oX4 re (nI sz) rl rf :: aI cI rl 10000 glr :: X) H := pm_P hP 12 [0, 1, 2, 3, 4, 5, 6, 7, 8, 9, 10, 11] rfl
              have hD : va_D A (oX8 xo w hi sn tx f mm re ro (bI mk) (bI rk) :: oX2 mm mro mfi mle (nI sz) mlo :: aI cI mro 100 gro :: aI cI mfi 100 gfi :: aI cI mle 100 gle :: aI cI mlo 200 glo :: oX7 w wb ws wc wr wl ww wf :: oX5 ro rog rsp rqu rta rut :: aI cI rsp 400 gsp :: aI cI rta 10000 gta :: oX4 re (nI sz) rl rf :: aI cI rl 10000 glr :: X) := pm_D hD 12 [0, 1, 2, 3, 4, 5, 6, 7, 8, 9, 10, 11] rfl rfl rfl
              refine lv_lstore_n (lv' := [(3, .long (mxL h2 (((ledgeF gro gfi gle glr sz a k)).toInt64))), (7, .int (nI k)), (6, .int (nI a)), (5, .int (nI ow)), (0, .ref xo), (1, .long xh)]) hx hb dX8_hashOfLedges_46 rfl hl (by decide) rfl (fun ls hl => ?_)
              refine lv_iinc (v := (nI (k + 1))) (lv' := [(7, .int (nI (k + 1))), (3, .long (mxL h2 (((ledgeF gro gfi gle glr sz a k)).toInt64))), (6, .int (nI a)), (5, .int (nI ow)), (0, .ref xo), (1, .long xh)]) hx hb dX8_hashOfLedges_47 hl (k := 1) rfl (nI_1 k) (by decide) rfl (fun ls hl => ?_)
              refine lv_goto (tgt := 26) hx hb dX8_hashOfLedges_50 (by decide) ?_
              exact ih_26 (k + 1) (mxL h2 (((ledgeF gro gfi gle glr sz a k)).toInt64)) (by omega) (by omega) (by rw [hv2]; exact (hL_s _ _ _).symm) _ _ (hP) (hD) hS _ (lv_sub hl [0, 2, 3, 1, 4, 5] rfl)
        exact loop_26 _ 0 h1 (Nat.lt_succ_self _) (Nat.zero_le _) (rfl) _ _ hP hD hS _ (lv_sub hl [0, 1, 2, 3, 4, 5] rfl)
  exact loop_11 _ 0 xh (Nat.lt_succ_self _) (Nat.zero_le _) (rfl) _ _ hP hD hS _ (lv_sub hl [0, 1, 2, 3, 4] rfl)
set_option maxHeartbeats 4000000 in
set_option maxRecDepth 100000 in
theorem m_hashLeaps (l : Launch) (D : va_G) (cI cZ cW cJ : ClassId) (A : Nat → Prop) (X : va_W) (xo hi sn tx f mm re ro : Nat) (mk rk : Bool) (w wb ws : Nat) (wc wr wl ww wf : Int32) (wbl : Nat → Int32) (wse : Nat → Int32) (fc fr ft fo fm fs fi : Int32) (xh : Int64) : Met l yX8_hashOfLeaps wsX8_hashOfLeaps ({ frames := 4, cells := 0, slots := 0, locals := 96 }) (va_Pc [.ref xo, .long xh] (wd D (tyL cI cZ cW cJ) A (oX8 xo w hi sn tx f mm re ro (bI mk) (bI rk) :: oX7 w wb ws wc wr wl ww wf :: aI cI wb 10 wbl :: aI cI ws 3 wse :: oX0 f fc fr ft fo fm fs fi :: X))) (va_Ql (fun (r : Int64) (u : Int32 × Int32 × Int32 × Int32 × Int32 × Int32 × Int32) => r = hI (fun (i : Nat) h => hI (fun u9 h => hL (fun k => (if grB (blkX wbl) wc wr (if i = 0 then 1 else -1) < nI u9 then -1 else leapF (flyF (blkX wbl) (if i = 0 then 1 else -1) (wse 1) (wse 2) 100 wc wr 0 wr false (nI u9 + 1) (wse 0)) k : Int32).toInt64) 5 h) 2 h) 2 xh) (fun (u : Int32 × Int32 × Int32 × Int32 × Int32 × Int32 × Int32) t => wq D A (oX8 xo w hi sn tx f mm re ro (bI mk) (bI rk) :: oX7 w wb ws wc wr wl ww wf :: aI cI wb 10 wbl :: aI cI ws 3 wse :: oX0 f u.1 u.2.1 u.2.2.1 u.2.2.2.1 u.2.2.2.2.1 u.2.2.2.2.2.1 u.2.2.2.2.2.2 :: X) t) A) 0 0 A := by
  refine Met.ofW (cc := cX8_hashOfLeaps) (maxL := 9) (ret := (some .long)) (by decide) rfl ?_
  intro p e s m args below meth c s₁ B hml hv
  obtain ⟨rfl, hsz9, hP, hK, hD, hN⟩ := hv
  have hx := B.exec
  have hb := B.bytes
  have hr := B.returns
  have hts := atoms_spec (ws := wsX8_hashOfLeaps) B.pre
  have hown : s.vm.findClass RX8 = some m.cls := findClass_of_methodNamed B.named
  have hlocks := B.notSynchronized
  have CF : CallFix p m c cX8_hashOfLeaps 9 s _ wsX8_hashOfLeaps RX8 := ⟨hx, hb, hml, hown, hts⟩
  have hA : ∀ q : Nat, s.heap.size ≤ q → A q := hsz9
  have hS : va_S A s.heap s.heap [] := va_S.rf
  have hiX7 : ∀ w ∈ u_ws RX7 TX7 7, w ∈ wsX8_hashOfLeaps := fun _ h => List.mem_cons_of_mem _ (List.mem_append_left _ (List.mem_append_right _ (h)))
  have hiX8 : ∀ w ∈ u_ws RX8 TX8 10, w ∈ wsX8_hashOfLeaps := fun _ h => List.mem_cons_of_mem _ (List.mem_append_left _ (List.mem_append_left _ (List.mem_append_right _ (h))))
  have hl := lv_entry ([.ref xo, .long xh]) (n := 9) (Nat.le_of_ble_eq_true rfl)
  rw [lg_entry_eq]
  generalize (lg_sl ([.ref xo, .long xh]) ++ List.replicate (9 - (lg_sl ([.ref xo, .long xh])).length) Slot.unset).toArray = ls at hl ⊢
  have hl : lv_has ls 9 [(0, .ref xo), (1, .long xh)] := hl
  show W p l e ({ frames := 4, cells := 0, slots := 0, locals := 96 } : Room) s m (([.ref xo, .long xh] : List Value).toArray) below meth c s.heap [] 0 0 (MQ below (va_Ql (fun (r : Int64) (u : Int32 × Int32 × Int32 × Int32 × Int32 × Int32 × Int32) => r = hI (fun (i : Nat) h => hI (fun u9 h => hL (fun k => (if grB (blkX wbl) wc wr (if i = 0 then 1 else -1) < nI u9 then -1 else leapF (flyF (blkX wbl) (if i = 0 then 1 else -1) (wse 1) (wse 2) 100 wc wr 0 wr false (nI u9 + 1) (wse 0)) k : Int32).toInt64) 5 h) 2 h) 2 xh) (fun (u : Int32 × Int32 × Int32 × Int32 × Int32 × Int32 × Int32) t => wq D A (oX8 xo w hi sn tx f mm re ro (bI mk) (bI rk) :: oX7 w wb ws wc wr wl ww wf :: aI cI wb 10 wbl :: aI cI ws 3 wse :: oX0 f u.1 u.2.1 u.2.2.1 u.2.2.2.1 u.2.2.2.2.1 u.2.2.2.2.2.1 u.2.2.2.2.2.2 :: X) t) A) (([.ref xo, .long xh] : List Value).toArray) s 0 0 A) (F0 m 0 ls [])
  refine lv_lload_n hx hb dX8_hashOfLeaps_0 rfl (lv_at hl 1 rfl) ?_
  refine lv_lstore_n (lv' := [(3, .long xh), (0, .ref xo), (1, .long xh)]) hx hb dX8_hashOfLeaps_1 rfl hl (by decide) rfl (fun ls hl => ?_)
  refine lv_iconst (v := 0) hx hb dX8_hashOfLeaps_2 (by decide) ?_
  refine lv_istore (lv' := [(5, .int 0), (3, .long xh), (0, .ref xo), (1, .long xh)]) hx hb dX8_hashOfLeaps_3 hl (by decide) rfl (fun ls hl => ?_)
  have loop_5 : ∀ (nfu : Nat) (i : Nat) (h1 : Int64) (va1 vb1 vc1 vd1 ve1 vf1 vg1 : Int32) (hn_5 : 2 - i < nfu) (hi9 : i ≤ 2) (hv1 : h1 = hI (fun (i : Nat) h => hI (fun u9 h => hL (fun k => (if grB (blkX wbl) wc wr (if i = 0 then 1 else -1) < nI u9 then -1 else leapF (flyF (blkX wbl) (if i = 0 then 1 else -1) (wse 1) (wse 2) 100 wc wr 0 wr false (nI u9 + 1) (wse 0)) k : Int32).toInt64) 5 h) 2 h) i xh) (H : Heap) (locs : List Loc) (hP : va_P D vwCl (oX8 xo w hi sn tx f mm re ro (bI mk) (bI rk) :: oX7 w wb ws wc wr wl ww wf :: aI cI wb 10 wbl :: aI cI ws 3 wse :: oX0 f va1 vb1 vc1 vd1 ve1 vf1 vg1 :: X) H) (hD : va_D A (oX8 xo w hi sn tx f mm re ro (bI mk) (bI rk) :: oX7 w wb ws wc wr wl ww wf :: aI cI wb 10 wbl :: aI cI ws 3 wse :: oX0 f va1 vb1 vc1 vd1 ve1 vf1 vg1 :: X)) (hS : va_S A s.heap H locs) (ls : Array Slot) (hl : lv_has ls 9 [(5, .int (nI i)), (3, .long h1), (0, .ref xo), (1, .long xh)]), W p l e ({ frames := 4, cells := 0, slots := 0, locals := 96 } : Room) s m (([.ref xo, .long xh] : List Value).toArray) below meth c H locs 0 0 (MQ below (va_Ql (fun (r : Int64) (u : Int32 × Int32 × Int32 × Int32 × Int32 × Int32 × Int32) => r = hI (fun (i : Nat) h => hI (fun u9 h => hL (fun k => (if grB (blkX wbl) wc wr (if i = 0 then 1 else -1) < nI u9 then -1 else leapF (flyF (blkX wbl) (if i = 0 then 1 else -1) (wse 1) (wse 2) 100 wc wr 0 wr false (nI u9 + 1) (wse 0)) k : Int32).toInt64) 5 h) 2 h) 2 xh) (fun (u : Int32 × Int32 × Int32 × Int32 × Int32 × Int32 × Int32) t => wq D A (oX8 xo w hi sn tx f mm re ro (bI mk) (bI rk) :: oX7 w wb ws wc wr wl ww wf :: aI cI wb 10 wbl :: aI cI ws 3 wse :: oX0 f u.1 u.2.1 u.2.2.1 u.2.2.2.1 u.2.2.2.2.1 u.2.2.2.2.2.1 u.2.2.2.2.2.2 :: X) t) A) (([.ref xo, .long xh] : List Value).toArray) s 0 0 A) (F0 m 5 ls []) := by
    intro nfu
    induction nfu with
    | zero => intro i h1 va1 vb1 vc1 vd1 ve1 vf1 vg1 hn_5; exact absurd hn_5 (Nat.not_lt_zero _)
    | succ nfu ih_5 =>
      intro i h1 va1 vb1 vc1 vd1 ve1 vf1 vg1 hn_5 hi9 hv1 H locs hP hD hS ls hl
      refine lv_iload hx hb dX8_hashOfLeaps_5 (lv_at hl 0 rfl) ?_
      refine lv_iconst (v := 2) hx hb dX8_hashOfLeaps_7 (by decide) ?_
      refine lv_icmp_ge (tgt := 89) hx hb dX8_hashOfLeaps_8 (by decide) (fun c_8 => ?_) (fun c_8 => ?_)
      · refine lv_lload_n hx hb dX8_hashOfLeaps_89 rfl (lv_at hl 1 rfl) ?_
        exact W.lret (v := h1) hx hb hr (fun t9 ht9 hW9 => ⟨⟨h1, (va1, vb1, vc1, vd1, ve1, vf1, vg1), rfl, by rw [hv1, show i = 2 by have h := le_of_ge (a := 2) (b := i) (by decide) (by omega) c_8; omega], by rw [ht9]; exact hP, hD⟩, hS.F ht9⟩) hS.2.2 dX8_hashOfLeaps_90
      · have hi2 : i < 2 := lt_of_nge (a := 2) (b := i) (by decide) (by omega) c_8
        refine lv_iload hx hb dX8_hashOfLeaps_11 (lv_at hl 0 rfl) ?_
        refine lv_if_ne (tgt := 20) hx hb dX8_hashOfLeaps_13 (by decide) (fun c_13 => ?_) (fun c_13 => ?_)
        · refine lv_iconst (v := (-1)) hx hb dX8_hashOfLeaps_20 (by decide) ?_
          refine top_i (y := (if i = 0 then 1 else -1)) ((if_neg (fun q => c_13 (by rw [q]; rfl))).symm) ?_
          refine lv_istore (lv' := [(6, .int (if i = 0 then 1 else -1)), (5, .int (nI i)), (3, .long h1), (0, .ref xo), (1, .long xh)]) hx hb dX8_hashOfLeaps_21 hl (by decide) rfl (fun ls hl => ?_)
          refine lv_iconst (v := 0) hx hb dX8_hashOfLeaps_23 (by decide) ?_
          refine lv_istore (lv' := [(7, .int 0), (6, .int (if i = 0 then 1 else -1)), (5, .int (nI i)), (3, .long h1), (0, .ref xo), (1, .long xh)]) hx hb dX8_hashOfLeaps_24 hl (by decide) rfl (fun ls hl => ?_)
          have loop_26 : ∀ (nfu : Nat) (u9 : Nat) (h2 : Int64) (va2 vb2 vc2 vd2 ve2 vf2 vg2 : Int32) (hn_26 : 2 - u9 < nfu) (hu9 : u9 ≤ 2) (hv2 : h2 = hI (fun u9 h => hL (fun k => (if grB (blkX wbl) wc wr (if i = 0 then 1 else -1) < nI u9 then -1 else leapF (flyF (blkX wbl) (if i = 0 then 1 else -1) (wse 1) (wse 2) 100 wc wr 0 wr false (nI u9 + 1) (wse 0)) k : Int32).toInt64) 5 h) u9 h1) (H : Heap) (locs : List Loc) (hP : va_P D vwCl (oX8 xo w hi sn tx f mm re ro (bI mk) (bI rk) :: oX7 w wb ws wc wr wl ww wf :: aI cI wb 10 wbl :: aI cI ws 3 wse :: oX0 f va2 vb2 vc2 vd2 ve2 vf2 vg2 :: X) H) (hD : va_D A (oX8 xo w hi sn tx f mm re ro (bI mk) (bI rk) :: oX7 w wb ws wc wr wl ww wf :: aI cI wb 10 wbl :: aI cI ws 3 wse :: oX0 f va2 vb2 vc2 vd2 ve2 vf2 vg2 :: X)) (hS : va_S A s.heap H locs) (ls : Array Slot) (hl : lv_has ls 9 [(7, .int (nI u9)), (6, .int (if i = 0 then 1 else -1)), (5, .int (nI i)), (3, .long h2), (0, .ref xo), (1, .long xh)]), W p l e ({ frames := 4, cells := 0, slots := 0, locals := 96 } : Room) s m (([.ref xo, .long xh] : List Value).toArray) below meth c H locs 0 0 (MQ below (va_Ql (fun (r : Int64) (u : Int32 × Int32 × Int32 × Int32 × Int32 × Int32 × Int32) => r = hI (fun (i : Nat) h => hI (fun u9 h => hL (fun k => (if grB (blkX wbl) wc wr (if i = 0 then 1 else -1) < nI u9 then -1 else leapF (flyF (blkX wbl) (if i = 0 then 1 else -1) (wse 1) (wse 2) 100 wc wr 0 wr false (nI u9 + 1) (wse 0)) k : Int32).toInt64) 5 h) 2 h) 2 xh) (fun (u : Int32 × Int32 × Int32 × Int32 × Int32 × Int32 × Int32) t => wq D A (oX8 xo w hi sn tx f mm re ro (bI mk) (bI rk) :: oX7 w wb ws wc wr wl ww wf :: aI cI wb 10 wbl :: aI cI ws 3 wse :: oX0 f u.1 u.2.1 u.2.2.1 u.2.2.2.1 u.2.2.2.2.1 u.2.2.2.2.2.1 u.2.2.2.2.2.2 :: X) t) A) (([.ref xo, .long xh] : List Value).toArray) s 0 0 A) (F0 m 26 ls []) := by
            intro nfu
            induction nfu with
            | zero => intro u9 h2 va2 vb2 vc2 vd2 ve2 vf2 vg2 hn_26; exact absurd hn_26 (Nat.not_lt_zero _)
            | succ nfu ih_26 =>
              intro u9 h2 va2 vb2 vc2 vd2 ve2 vf2 vg2 hn_26 hu9 hv2 H locs hP hD hS ls hl
              refine lv_iload hx hb dX8_hashOfLeaps_26 (lv_at hl 0 rfl) ?_
              refine lv_iconst (v := 1) hx hb dX8_hashOfLeaps_28 (by decide) ?_
              refine lv_icmp_gt (tgt := 83) hx hb dX8_hashOfLeaps_29 (by decide) (fun c_29 => ?_) (fun c_29 => ?_)
              · refine lv_iinc (v := (nI (i + 1))) (lv' := [(5, .int (nI (i + 1))), (7, .int (nI u9)), (6, .int (if i = 0 then 1 else -1)), (3, .long h2), (0, .ref xo), (1, .long xh)]) hx hb dX8_hashOfLeaps_83 hl (k := 2) rfl (nI_1 i) (by decide) rfl (fun ls hl => ?_)
                refine lv_goto (tgt := 5) hx hb dX8_hashOfLeaps_86 (by decide) ?_
                exact ih_5 (i + 1) h2 va2 vb2 vc2 vd2 ve2 vf2 vg2 (by omega) (by omega) (by rw [hv2, show u9 = 2 by have h := lt_of_lt (a := 1) (b := u9) (by decide) (by omega) c_29; omega, hv1]; refine Eq.trans ?_ (hI_s _ _ _).symm; rfl) _ _ (hP) (hD) hS _ (lv_sub hl [0, 3, 4, 5] rfl)
              · have hu2 : u9 ≤ 1 := le_of_nlt (a := 1) (b := u9) (by decide) (by omega) c_29
                refine lv_iconst (v := 0) hx hb dX8_hashOfLeaps_32 (by decide) ?_
                refine lv_istore (lv' := [(8, .int 0), (7, .int (nI u9)), (6, .int (if i = 0 then 1 else -1)), (5, .int (nI i)), (3, .long h2), (0, .ref xo), (1, .long xh)]) hx hb dX8_hashOfLeaps_33 hl (by decide) rfl (fun ls hl => ?_)
                have loop_35 : ∀ (nfu : Nat) (k : Nat) (h3 : Int64) (va3 vb3 vc3 vd3 ve3 vf3 vg3 : Int32) (hn_35 : 5 - k < nfu) (hk9 : k ≤ 5) (hv3 : h3 = hL (fun k => (if grB (blkX wbl) wc wr (if i = 0 then 1 else -1) < nI u9 then -1 else leapF (flyF (blkX wbl) (if i = 0 then 1 else -1) (wse 1) (wse 2) 100 wc wr 0 wr false (nI u9 + 1) (wse 0)) k : Int32).toInt64) k h2) (H : Heap) (locs : List Loc) (hP : va_P D vwCl (oX8 xo w hi sn tx f mm re ro (bI mk) (bI rk) :: oX7 w wb ws wc wr wl ww wf :: aI cI wb 10 wbl :: aI cI ws 3 wse :: oX0 f va3 vb3 vc3 vd3 ve3 vf3 vg3 :: X) H) (hD : va_D A (oX8 xo w hi sn tx f mm re ro (bI mk) (bI rk) :: oX7 w wb ws wc wr wl ww wf :: aI cI wb 10 wbl :: aI cI ws 3 wse :: oX0 f va3 vb3 vc3 vd3 ve3 vf3 vg3 :: X)) (hS : va_S A s.heap H locs) (ls : Array Slot) (hl : lv_has ls 9 [(8, .int (nI k)), (7, .int (nI u9)), (6, .int (if i = 0 then 1 else -1)), (5, .int (nI i)), (3, .long h3), (0, .ref xo), (1, .long xh)]), W p l e ({ frames := 4, cells := 0, slots := 0, locals := 96 } : Room) s m (([.ref xo, .long xh] : List Value).toArray) below meth c H locs 0 0 (MQ below (va_Ql (fun (r : Int64) (u : Int32 × Int32 × Int32 × Int32 × Int32 × Int32 × Int32) => r = hI (fun (i : Nat) h => hI (fun u9 h => hL (fun k => (if grB (blkX wbl) wc wr (if i = 0 then 1 else -1) < nI u9 then -1 else leapF (flyF (blkX wbl) (if i = 0 then 1 else -1) (wse 1) (wse 2) 100 wc wr 0 wr false (nI u9 + 1) (wse 0)) k : Int32).toInt64) 5 h) 2 h) 2 xh) (fun (u : Int32 × Int32 × Int32 × Int32 × Int32 × Int32 × Int32) t => wq D A (oX8 xo w hi sn tx f mm re ro (bI mk) (bI rk) :: oX7 w wb ws wc wr wl ww wf :: aI cI wb 10 wbl :: aI cI ws 3 wse :: oX0 f u.1 u.2.1 u.2.2.1 u.2.2.2.1 u.2.2.2.2.1 u.2.2.2.2.2.1 u.2.2.2.2.2.2 :: X) t) A) (([.ref xo, .long xh] : List Value).toArray) s 0 0 A) (F0 m 35 ls []) := by
                  intro nfu
                  induction nfu with
                  | zero => intro k h3 va3 vb3 vc3 vd3 ve3 vf3 vg3 hn_35; exact absurd hn_35 (Nat.not_lt_zero _)
                  | succ nfu ih_35 =>
                    intro k h3 va3 vb3 vc3 vd3 ve3 vf3 vg3 hn_35 hk9 hv3 H locs hP hD hS ls hl
                    refine lv_iload hx hb dX8_hashOfLeaps_35 (lv_at hl 0 rfl) ?_
                    refine lv_iconst (v := 5) hx hb dX8_hashOfLeaps_37 (by decide) ?_
                    refine lv_icmp_ge (tgt := 77) hx hb dX8_hashOfLeaps_38 (by decide) (fun c_38 => ?_) (fun c_38 => ?_)
                    · refine lv_iinc (v := (nI (u9 + 1))) (lv' := [(7, .int (nI (u9 + 1))), (8, .int (nI k)), (6, .int (if i = 0 then 1 else -1)), (5, .int (nI i)), (3, .long h3), (0, .ref xo), (1, .long xh)]) hx hb dX8_hashOfLeaps_77 hl (k := 1) rfl (nI_1 u9) (by decide) rfl (fun ls hl => ?_)
                      refine lv_goto (tgt := 26) hx hb dX8_hashOfLeaps_80 (by decide) ?_
                      exact ih_26 (u9 + 1) h3 va3 vb3 vc3 vd3 ve3 vf3 vg3 (by omega) (by omega) (by rw [hv3, show k = 5 by have h := le_of_ge (a := 5) (b := k) (by decide) (by omega) c_38; omega, hv2]; refine Eq.trans ?_ (hI_s _ _ _).symm; rfl) _ _ (hP) (hD) hS _ (lv_sub hl [0, 2, 3, 4, 5, 6] rfl)
                    · have hk2 : k < 5 := lt_of_nge (a := 5) (b := k) (by decide) (by omega) c_38
                      refine lv_lload_n hx hb dX8_hashOfLeaps_41 rfl (lv_at hl 4 rfl) ?_
                      refine lv_aload_n hx hb dX8_hashOfLeaps_42 rfl (lv_at hl 5 rfl) ?_
                      refine lv_aload_n hx hb dX8_hashOfLeaps_43 rfl (lv_at hl 5 rfl) ?_
                      refine va_get (D := D) (ci := 8) (v := .ref w) (C := RX8) (T := TX8) (N := 10) hx hb hts hiX8 hown hK hP 0 rfl rfl 0 (by decide) (hts (.fieldLink RX8 12 "LedgeLeaps" "world" "LLedgeLeaps$World;") (List.mem_of_getElem? (i := 1) rfl)) (fun _ h9 => h9) rfl dX8_hashOfLeaps_44 ?_
                      refine va_get (D := D) (ci := 7) (v := .int wc) (C := RX7) (T := TX7) (N := 7) hx hb hts hiX7 hown hK hP 1 rfl rfl 2 (by decide) (hts (.fieldLink RX8 137 "LedgeLeaps$World" "column" "I") (List.mem_of_getElem? (i := 2) rfl)) (fun _ h9 => h9) rfl dX8_hashOfLeaps_47 ?_
                      refine lv_aload_n hx hb dX8_hashOfLeaps_50 rfl (lv_at hl 5 rfl) ?_
                      refine va_get (D := D) (ci := 8) (v := .ref w) (C := RX8) (T := TX8) (N := 10) hx hb hts hiX8 hown hK hP 0 rfl rfl 0 (by decide) (hts (.fieldLink RX8 12 "LedgeLeaps" "world" "LLedgeLeaps$World;") (List.mem_of_getElem? (i := 1) rfl)) (fun _ h9 => h9) rfl dX8_hashOfLeaps_51 ?_
                      refine va_get (D := D) (ci := 7) (v := .int wr) (C := RX7) (T := TX7) (N := 7) hx hb hts hiX7 hown hK hP 1 rfl rfl 3 (by decide) (hts (.fieldLink RX8 140 "LedgeLeaps$World" "row" "I") (List.mem_of_getElem? (i := 3) rfl)) (fun _ h9 => h9) rfl dX8_hashOfLeaps_54 ?_
                      refine lv_iload hx hb dX8_hashOfLeaps_57 (lv_at hl 2 rfl) ?_
                      refine lv_iload hx hb dX8_hashOfLeaps_59 (lv_at hl 1 rfl) ?_
                      refine lv_iload hx hb dX8_hashOfLeaps_61 (lv_at hl 0 rfl) ?_
                      refine cV_i CF hK hN hA hS (cut_of 5 [0, 1, 2, 3, 4] hP hD rfl rfl rfl) (m_leapNumber l D cI cZ cW cJ A (X) xo hi sn tx f mm re ro mk rk w wb ws wc wr wl ww wf wbl wse va3 vb3 vc3 vd3 ve3 vf3 vg3 wc wr (if i = 0 then 1 else -1) (nI u9) k hk2) (cwV 5 hts gX8_hashOfLeaps_X8_leapNumber rfl rfl rfl (by decide +kernel) ⟨Nat.le_of_ble_eq_true rfl, Nat.le_of_ble_eq_true rfl⟩) (As := [.int wc, .int wr, .int (if i = 0 then 1 else -1), .int (nI u9), .int (nI k)]) (rest := [.long h3]) (ci := 8) (q0 := 0) rfl rfl rfl hl.1 rfl (Nat.le_of_ble_eq_true rfl) dX8_hashOfLeaps_63 ⟨Nat.le_of_ble_eq_true rfl, Nat.le_of_ble_eq_true rfl⟩ (fun r_63 u_63 H locs hq hP hD hS => ?_)
                      have hq_63 : r_63 = (if grB (blkX wbl) wc wr (if i = 0 then 1 else -1) < (nI u9) then -1 else leapF (flyF (blkX wbl) (if i = 0 then 1 else -1) (wse 1) (wse 2) 100 wc wr 0 wr false ((nI u9) + 1) (wse 0)) k) := hq
                      have hP : va_P D vwCl (oX8 xo w hi sn tx f mm re ro (bI mk) (bI rk) :: oX7 w wb ws wc wr wl ww wf :: aI cI wb 10 wbl :: aI cI ws 3 wse :: oX0 f u_63.1 u_63.2.1 u_63.2.2.1 u_63.2.2.2.1 u_63.2.2.2.2.1 u_63.2.2.2.2.2.1 u_63.2.2.2.2.2.2 :: X) H := pm_P hP 5 [0, 1, 2, 3, 4] rfl
                      have hD : va_D A (oX8 xo w hi sn tx f mm re ro (bI mk) (bI rk) :: oX7 w wb ws wc wr wl ww wf :: aI cI wb 10 wbl :: aI cI ws 3 wse :: oX0 f u_63.1 u_63.2.1 u_63.2.2.1 u_63.2.2.2.1 u_63.2.2.2.2.1 u_63.2.2.2.2.2.1 u_63.2.2.2.2.2.2 :: X) := pm_D hD 5 [0, 1, 2, 3, 4] rfl rfl rfl
                      refine lv_i2l (v := (r_63).toInt64) hx hb dX8_hashOfLeaps_66 rfl ?_
                      refine cS_l CF hK hN hA hS (cut_of 5 [0, 1, 2, 3, 4] hP hD rfl rfl rfl) (m_joined l D cI cZ cW cJ A (oX8 xo w hi sn tx f mm re ro (bI mk) (bI rk) :: oX7 w wb ws wc wr wl ww wf :: aI cI wb 10 wbl :: aI cI ws 3 wse :: oX0 f u_63.1 u_63.2.1 u_63.2.2.1 u_63.2.2.2.1 u_63.2.2.2.2.1 u_63.2.2.2.2.2.1 u_63.2.2.2.2.2.2 :: X) h3 ((r_63).toInt64)) (va_cwS 2 hts gX8_hashOfLeaps_X8_joined rfl rfl rfl (by decide +kernel) ⟨Nat.le_of_ble_eq_true rfl, Nat.le_of_ble_eq_true rfl⟩) (As := [.long h3, .long ((r_63).toInt64)]) (rest := []) rfl hl.1 rfl (Nat.le_of_ble_eq_true rfl) dX8_hashOfLeaps_67 ⟨Nat.le_of_ble_eq_true rfl, Nat.le_of_ble_eq_true rfl⟩ (fun r_67 _ H locs hq hP hD hS => ?_)
                      have hq : r_67 = mxL h3 ((r_63).toInt64) := hq
                      subst hq
                      have hP : va_P D vwCl (oX8 xo w hi sn tx f mm re ro (bI mk) (bI rk) :: oX7 w wb ws wc wr wl ww wf :: aI cI wb 10 wbl :: aI cI ws 3 wse :: oX0 f u_63.1 u_63.2.1 u_63.2.2.1 u_63.2.2.2.1 u_63.2.2.2.2.1 u_63.2.2.2.2.2.1 u_63.2.2.2.2.2.2 :: X) H := pm_P hP 5 [0, 1, 2, 3, 4] rfl
                      have hD : va_D A (oX8 xo w hi sn tx f mm re ro (bI mk) (bI rk) :: oX7 w wb ws wc wr wl ww wf :: aI cI wb 10 wbl :: aI cI ws 3 wse :: oX0 f u_63.1 u_63.2.1 u_63.2.2.1 u_63.2.2.2.1 u_63.2.2.2.2.1 u_63.2.2.2.2.2.1 u_63.2.2.2.2.2.2 :: X) := pm_D hD 5 [0, 1, 2, 3, 4] rfl rfl rfl
                      refine lv_lstore_n (lv' := [(3, .long (mxL h3 ((r_63).toInt64))), (8, .int (nI k)), (7, .int (nI u9)), (6, .int (if i = 0 then 1 else -1)), (5, .int (nI i)), (0, .ref xo), (1, .long xh)]) hx hb dX8_hashOfLeaps_70 rfl hl (by decide) rfl (fun ls hl => ?_)
                      refine lv_iinc (v := (nI (k + 1))) (lv' := [(8, .int (nI (k + 1))), (3, .long (mxL h3 ((r_63).toInt64))), (7, .int (nI u9)), (6, .int (if i = 0 then 1 else -1)), (5, .int (nI i)), (0, .ref xo), (1, .long xh)]) hx hb dX8_hashOfLeaps_71 hl (k := 1) rfl (nI_1 k) (by decide) rfl (fun ls hl => ?_)
                      refine lv_goto (tgt := 35) hx hb dX8_hashOfLeaps_74 (by decide) ?_
                      exact ih_35 (k + 1) (mxL h3 ((r_63).toInt64)) u_63.1 u_63.2.1 u_63.2.2.1 u_63.2.2.2.1 u_63.2.2.2.2.1 u_63.2.2.2.2.2.1 u_63.2.2.2.2.2.2 (by omega) (by omega) (by rw [hv3, hq_63]; exact (hL_s _ _ _).symm) _ _ (hP) (hD) hS _ (lv_sub hl [0, 2, 3, 4, 1, 5, 6] rfl)
                exact loop_35 _ 0 h2 va2 vb2 vc2 vd2 ve2 vf2 vg2 (Nat.lt_succ_self _) (Nat.zero_le _) (rfl) _ _ hP hD hS _ (lv_sub hl [0, 1, 2, 3, 4, 5, 6] rfl)
          exact loop_26 _ 0 h1 va1 vb1 vc1 vd1 ve1 vf1 vg1 (Nat.lt_succ_self _) (Nat.zero_le _) (rfl) _ _ hP hD hS _ (lv_sub hl [0, 1, 2, 3, 4, 5] rfl)
        · refine lv_iconst (v := 1) hx hb dX8_hashOfLeaps_16 (by decide) ?_
          refine top_i (y := (if i = 0 then 1 else -1)) ((if_pos (nI_inj (a := i) (b := 0) (by omega) (by decide) c_13)).symm) ?_
          refine lv_goto (tgt := 21) hx hb dX8_hashOfLeaps_17 (by decide) ?_
          refine lv_istore (lv' := [(6, .int (if i = 0 then 1 else -1)), (5, .int (nI i)), (3, .long h1), (0, .ref xo), (1, .long xh)]) hx hb dX8_hashOfLeaps_21 hl (by decide) rfl (fun ls hl => ?_)
          refine lv_iconst (v := 0) hx hb dX8_hashOfLeaps_23 (by decide) ?_
          refine lv_istore (lv' := [(7, .int 0), (6, .int (if i = 0 then 1 else -1)), (5, .int (nI i)), (3, .long h1), (0, .ref xo), (1, .long xh)]) hx hb dX8_hashOfLeaps_24 hl (by decide) rfl (fun ls hl => ?_)
          have loop_26 : ∀ (nfu : Nat) (u9 : Nat) (h2 : Int64) (va2 vb2 vc2 vd2 ve2 vf2 vg2 : Int32) (hn_26 : 2 - u9 < nfu) (hu9 : u9 ≤ 2) (hv2 : h2 = hI (fun u9 h => hL (fun k => (if grB (blkX wbl) wc wr (if i = 0 then 1 else -1) < nI u9 then -1 else leapF (flyF (blkX wbl) (if i = 0 then 1 else -1) (wse 1) (wse 2) 100 wc wr 0 wr false (nI u9 + 1) (wse 0)) k : Int32).toInt64) 5 h) u9 h1) (H : Heap) (locs : List Loc) (hP : va_P D vwCl (oX8 xo w hi sn tx f mm re ro (bI mk) (bI rk) :: oX7 w wb ws wc wr wl ww wf :: aI cI wb 10 wbl :: aI cI ws 3 wse :: oX0 f va2 vb2 vc2 vd2 ve2 vf2 vg2 :: X) H) (hD : va_D A (oX8 xo w hi sn tx f mm re ro (bI mk) (bI rk) :: oX7 w wb ws wc wr wl ww wf :: aI cI wb 10 wbl :: aI cI ws 3 wse :: oX0 f va2 vb2 vc2 vd2 ve2 vf2 vg2 :: X)) (hS : va_S A s.heap H locs) (ls : Array Slot) (hl : lv_has ls 9 [(7, .int (nI u9)), (6, .int (if i = 0 then 1 else -1)), (5, .int (nI i)), (3, .long h2), (0, .ref xo), (1, .long xh)]), W p l e ({ frames := 4, cells := 0, slots := 0, locals := 96 } : Room) s m (([.ref xo, .long xh] : List Value).toArray) below meth c H locs 0 0 (MQ below (va_Ql (fun (r : Int64) (u : Int32 × Int32 × Int32 × Int32 × Int32 × Int32 × Int32) => r = hI (fun (i : Nat) h => hI (fun u9 h => hL (fun k => (if grB (blkX wbl) wc wr (if i = 0 then 1 else -1) < nI u9 then -1 else leapF (flyF (blkX wbl) (if i = 0 then 1 else -1) (wse 1) (wse 2) 100 wc wr 0 wr false (nI u9 + 1) (wse 0)) k : Int32).toInt64) 5 h) 2 h) 2 xh) (fun (u : Int32 × Int32 × Int32 × Int32 × Int32 × Int32 × Int32) t => wq D A (oX8 xo w hi sn tx f mm re ro (bI mk) (bI rk) :: oX7 w wb ws wc wr wl ww wf :: aI cI wb 10 wbl :: aI cI ws 3 wse :: oX0 f u.1 u.2.1 u.2.2.1 u.2.2.2.1 u.2.2.2.2.1 u.2.2.2.2.2.1 u.2.2.2.2.2.2 :: X) t) A) (([.ref xo, .long xh] : List Value).toArray) s 0 0 A) (F0 m 26 ls []) := by
            intro nfu
            induction nfu with
            | zero => intro u9 h2 va2 vb2 vc2 vd2 ve2 vf2 vg2 hn_26; exact absurd hn_26 (Nat.not_lt_zero _)
            | succ nfu ih_26 =>
              intro u9 h2 va2 vb2 vc2 vd2 ve2 vf2 vg2 hn_26 hu9 hv2 H locs hP hD hS ls hl
              refine lv_iload hx hb dX8_hashOfLeaps_26 (lv_at hl 0 rfl) ?_
              refine lv_iconst (v := 1) hx hb dX8_hashOfLeaps_28 (by decide) ?_
              refine lv_icmp_gt (tgt := 83) hx hb dX8_hashOfLeaps_29 (by decide) (fun c_29 => ?_) (fun c_29 => ?_)
              · refine lv_iinc (v := (nI (i + 1))) (lv' := [(5, .int (nI (i + 1))), (7, .int (nI u9)), (6, .int (if i = 0 then 1 else -1)), (3, .long h2), (0, .ref xo), (1, .long xh)]) hx hb dX8_hashOfLeaps_83 hl (k := 2) rfl (nI_1 i) (by decide) rfl (fun ls hl => ?_)
                refine lv_goto (tgt := 5) hx hb dX8_hashOfLeaps_86 (by decide) ?_
                exact ih_5 (i + 1) h2 va2 vb2 vc2 vd2 ve2 vf2 vg2 (by omega) (by omega) (by rw [hv2, show u9 = 2 by have h := lt_of_lt (a := 1) (b := u9) (by decide) (by omega) c_29; omega, hv1]; refine Eq.trans ?_ (hI_s _ _ _).symm; rfl) _ _ (hP) (hD) hS _ (lv_sub hl [0, 3, 4, 5] rfl)
              · have hu2 : u9 ≤ 1 := le_of_nlt (a := 1) (b := u9) (by decide) (by omega) c_29
                refine lv_iconst (v := 0) hx hb dX8_hashOfLeaps_32 (by decide) ?_
                refine lv_istore (lv' := [(8, .int 0), (7, .int (nI u9)), (6, .int (if i = 0 then 1 else -1)), (5, .int (nI i)), (3, .long h2), (0, .ref xo), (1, .long xh)]) hx hb dX8_hashOfLeaps_33 hl (by decide) rfl (fun ls hl => ?_)
                have loop_35 : ∀ (nfu : Nat) (k : Nat) (h3 : Int64) (va3 vb3 vc3 vd3 ve3 vf3 vg3 : Int32) (hn_35 : 5 - k < nfu) (hk9 : k ≤ 5) (hv3 : h3 = hL (fun k => (if grB (blkX wbl) wc wr (if i = 0 then 1 else -1) < nI u9 then -1 else leapF (flyF (blkX wbl) (if i = 0 then 1 else -1) (wse 1) (wse 2) 100 wc wr 0 wr false (nI u9 + 1) (wse 0)) k : Int32).toInt64) k h2) (H : Heap) (locs : List Loc) (hP : va_P D vwCl (oX8 xo w hi sn tx f mm re ro (bI mk) (bI rk) :: oX7 w wb ws wc wr wl ww wf :: aI cI wb 10 wbl :: aI cI ws 3 wse :: oX0 f va3 vb3 vc3 vd3 ve3 vf3 vg3 :: X) H) (hD : va_D A (oX8 xo w hi sn tx f mm re ro (bI mk) (bI rk) :: oX7 w wb ws wc wr wl ww wf :: aI cI wb 10 wbl :: aI cI ws 3 wse :: oX0 f va3 vb3 vc3 vd3 ve3 vf3 vg3 :: X)) (hS : va_S A s.heap H locs) (ls : Array Slot) (hl : lv_has ls 9 [(8, .int (nI k)), (7, .int (nI u9)), (6, .int (if i = 0 then 1 else -1)), (5, .int (nI i)), (3, .long h3), (0, .ref xo), (1, .long xh)]), W p l e ({ frames := 4, cells := 0, slots := 0, locals := 96 } : Room) s m (([.ref xo, .long xh] : List Value).toArray) below meth c H locs 0 0 (MQ below (va_Ql (fun (r : Int64) (u : Int32 × Int32 × Int32 × Int32 × Int32 × Int32 × Int32) => r = hI (fun (i : Nat) h => hI (fun u9 h => hL (fun k => (if grB (blkX wbl) wc wr (if i = 0 then 1 else -1) < nI u9 then -1 else leapF (flyF (blkX wbl) (if i = 0 then 1 else -1) (wse 1) (wse 2) 100 wc wr 0 wr false (nI u9 + 1) (wse 0)) k : Int32).toInt64) 5 h) 2 h) 2 xh) (fun (u : Int32 × Int32 × Int32 × Int32 × Int32 × Int32 × Int32) t => wq D A (oX8 xo w hi sn tx f mm re ro (bI mk) (bI rk) :: oX7 w wb ws wc wr wl ww wf :: aI cI wb 10 wbl :: aI cI ws 3 wse :: oX0 f u.1 u.2.1 u.2.2.1 u.2.2.2.1 u.2.2.2.2.1 u.2.2.2.2.2.1 u.2.2.2.2.2.2 :: X) t) A) (([.ref xo, .long xh] : List Value).toArray) s 0 0 A) (F0 m 35 ls []) := by
                  intro nfu
                  induction nfu with
                  | zero => intro k h3 va3 vb3 vc3 vd3 ve3 vf3 vg3 hn_35; exact absurd hn_35 (Nat.not_lt_zero _)
                  | succ nfu ih_35 =>
                    intro k h3 va3 vb3 vc3 vd3 ve3 vf3 vg3 hn_35 hk9 hv3 H locs hP hD hS ls hl
                    refine lv_iload hx hb dX8_hashOfLeaps_35 (lv_at hl 0 rfl) ?_
                    refine lv_iconst (v := 5) hx hb dX8_hashOfLeaps_37 (by decide) ?_
                    refine lv_icmp_ge (tgt := 77) hx hb dX8_hashOfLeaps_38 (by decide) (fun c_38 => ?_) (fun c_38 => ?_)
                    · refine lv_iinc (v := (nI (u9 + 1))) (lv' := [(7, .int (nI (u9 + 1))), (8, .int (nI k)), (6, .int (if i = 0 then 1 else -1)), (5, .int (nI i)), (3, .long h3), (0, .ref xo), (1, .long xh)]) hx hb dX8_hashOfLeaps_77 hl (k := 1) rfl (nI_1 u9) (by decide) rfl (fun ls hl => ?_)
                      refine lv_goto (tgt := 26) hx hb dX8_hashOfLeaps_80 (by decide) ?_
                      exact ih_26 (u9 + 1) h3 va3 vb3 vc3 vd3 ve3 vf3 vg3 (by omega) (by omega) (by rw [hv3, show k = 5 by have h := le_of_ge (a := 5) (b := k) (by decide) (by omega) c_38; omega, hv2]; refine Eq.trans ?_ (hI_s _ _ _).symm; rfl) _ _ (hP) (hD) hS _ (lv_sub hl [0, 2, 3, 4, 5, 6] rfl)
                    · have hk2 : k < 5 := lt_of_nge (a := 5) (b := k) (by decide) (by omega) c_38
                      refine lv_lload_n hx hb dX8_hashOfLeaps_41 rfl (lv_at hl 4 rfl) ?_
                      refine lv_aload_n hx hb dX8_hashOfLeaps_42 rfl (lv_at hl 5 rfl) ?_
                      refine lv_aload_n hx hb dX8_hashOfLeaps_43 rfl (lv_at hl 5 rfl) ?_
                      refine va_get (D := D) (ci := 8) (v := .ref w) (C := RX8) (T := TX8) (N := 10) hx hb hts hiX8 hown hK hP 0 rfl rfl 0 (by decide) (hts (.fieldLink RX8 12 "LedgeLeaps" "world" "LLedgeLeaps$World;") (List.mem_of_getElem? (i := 1) rfl)) (fun _ h9 => h9) rfl dX8_hashOfLeaps_44 ?_
                      refine va_get (D := D) (ci := 7) (v := .int wc) (C := RX7) (T := TX7) (N := 7) hx hb hts hiX7 hown hK hP 1 rfl rfl 2 (by decide) (hts (.fieldLink RX8 137 "LedgeLeaps$World" "column" "I") (List.mem_of_getElem? (i := 2) rfl)) (fun _ h9 => h9) rfl dX8_hashOfLeaps_47 ?_
                      refine lv_aload_n hx hb dX8_hashOfLeaps_50 rfl (lv_at hl 5 rfl) ?_
                      refine va_get (D := D) (ci := 8) (v := .ref w) (C := RX8) (T := TX8) (N := 10) hx hb hts hiX8 hown hK hP 0 rfl rfl 0 (by decide) (hts (.fieldLink RX8 12 "LedgeLeaps" "world" "LLedgeLeaps$World;") (List.mem_of_getElem? (i := 1) rfl)) (fun _ h9 => h9) rfl dX8_hashOfLeaps_51 ?_
                      refine va_get (D := D) (ci := 7) (v := .int wr) (C := RX7) (T := TX7) (N := 7) hx hb hts hiX7 hown hK hP 1 rfl rfl 3 (by decide) (hts (.fieldLink RX8 140 "LedgeLeaps$World" "row" "I") (List.mem_of_getElem? (i := 3) rfl)) (fun _ h9 => h9) rfl dX8_hashOfLeaps_54 ?_
                      refine lv_iload hx hb dX8_hashOfLeaps_57 (lv_at hl 2 rfl) ?_
                      refine lv_iload hx hb dX8_hashOfLeaps_59 (lv_at hl 1 rfl) ?_
                      refine lv_iload hx hb dX8_hashOfLeaps_61 (lv_at hl 0 rfl) ?_
                      refine cV_i CF hK hN hA hS (cut_of 5 [0, 1, 2, 3, 4] hP hD rfl rfl rfl) (m_leapNumber l D cI cZ cW cJ A (X) xo hi sn tx f mm re ro mk rk w wb ws wc wr wl ww wf wbl wse va3 vb3 vc3 vd3 ve3 vf3 vg3 wc wr (if i = 0 then 1 else -1) (nI u9) k hk2) (cwV 5 hts gX8_hashOfLeaps_X8_leapNumber rfl rfl rfl (by decide +kernel) ⟨Nat.le_of_ble_eq_true rfl, Nat.le_of_ble_eq_true rfl⟩) (As := [.int wc, .int wr, .int (if i = 0 then 1 else -1), .int (nI u9), .int (nI k)]) (rest := [.long h3]) (ci := 8) (q0 := 0) rfl rfl rfl hl.1 rfl (Nat.le_of_ble_eq_true rfl) dX8_hashOfLeaps_63 ⟨Nat.le_of_ble_eq_true rfl, Nat.le_of_ble_eq_true rfl⟩ (fun r_63 u_63 H locs hq hP hD hS => ?_)
                      have hq_63 : r_63 = (if grB (blkX wbl) wc wr (if i = 0 then 1 else -1) < (nI u9) then -1 else leapF (flyF (blkX wbl) (if i = 0 then 1 else -1) (wse 1) (wse 2) 100 wc wr 0 wr false ((nI u9) + 1) (wse 0)) k) := hq
                      have hP : va_P D vwCl (oX8 xo w hi sn tx f mm re ro (bI mk) (bI rk) :: oX7 w wb ws wc wr wl ww wf :: aI cI wb 10 wbl :: aI cI ws 3 wse :: oX0 f u_63.1 u_63.2.1 u_63.2.2.1 u_63.2.2.2.1 u_63.2.2.2.2.1 u_63.2.2.2.2.2.1 u_63.2.2.2.2.2.2 :: X) H := pm_P hP 5 [0, 1, 2, 3, 4] rfl
                      have hD : va_D A (oX8 xo w hi sn tx f mm re ro (bI mk) (bI rk) :: oX7 w wb ws wc wr wl ww wf :: aI cI wb 10 wbl :: aI cI ws 3 wse :: oX0 f u_63.1 u_63.2.1 u_63.2.2.1 u_63.2.2.2.1 u_63.2.2.2.2.1 u_63.2.2.2.2.2.1 u_63.2.2.2.2.2.2 :: X) := pm_D hD 5 [0, 1, 2, 3, 4] rfl rfl rfl
                      refine lv_i2l (v := (r_63).toInt64) hx hb dX8_hashOfLeaps_66 rfl ?_
                      refine cS_l CF hK hN hA hS (cut_of 5 [0, 1, 2, 3, 4] hP hD rfl rfl rfl) (m_joined l D cI cZ cW cJ A (oX8 xo w hi sn tx f mm re ro (bI mk) (bI rk) :: oX7 w wb ws wc wr wl ww wf :: aI cI wb 10 wbl :: aI cI ws 3 wse :: oX0 f u_63.1 u_63.2.1 u_63.2.2.1 u_63.2.2.2.1 u_63.2.2.2.2.1 u_63.2.2.2.2.2.1 u_63.2.2.2.2.2.2 :: X) h3 ((r_63).toInt64)) (va_cwS 2 hts gX8_hashOfLeaps_X8_joined rfl rfl rfl (by decide +kernel) ⟨Nat.le_of_ble_eq_true rfl, Nat.le_of_ble_eq_true rfl⟩) (As := [.long h3, .long ((r_63).toInt64)]) (rest := []) rfl hl.1 rfl (Nat.le_of_ble_eq_true rfl) dX8_hashOfLeaps_67 ⟨Nat.le_of_ble_eq_true rfl, Nat.le_of_ble_eq_true rfl⟩ (fun r_67 _ H locs hq hP hD hS => ?_)
                      have hq : r_67 = mxL h3 ((r_63).toInt64) := hq
                      subst hq
                      have hP : va_P D vwCl (oX8 xo w hi sn tx f mm re ro (bI mk) (bI rk) :: oX7 w wb ws wc wr wl ww wf :: aI cI wb 10 wbl :: aI cI ws 3 wse :: oX0 f u_63.1 u_63.2.1 u_63.2.2.1 u_63.2.2.2.1 u_63.2.2.2.2.1 u_63.2.2.2.2.2.1 u_63.2.2.2.2.2.2 :: X) H := pm_P hP 5 [0, 1, 2, 3, 4] rfl
                      have hD : va_D A (oX8 xo w hi sn tx f mm re ro (bI mk) (bI rk) :: oX7 w wb ws wc wr wl ww wf :: aI cI wb 10 wbl :: aI cI ws 3 wse :: oX0 f u_63.1 u_63.2.1 u_63.2.2.1 u_63.2.2.2.1 u_63.2.2.2.2.1 u_63.2.2.2.2.2.1 u_63.2.2.2.2.2.2 :: X) := pm_D hD 5 [0, 1, 2, 3, 4] rfl rfl rfl
                      refine lv_lstore_n (lv' := [(3, .long (mxL h3 ((r_63).toInt64))), (8, .int (nI k)), (7, .int (nI u9)), (6, .int (if i = 0 then 1 else -1)), (5, .int (nI i)), (0, .ref xo), (1, .long xh)]) hx hb dX8_hashOfLeaps_70 rfl hl (by decide) rfl (fun ls hl => ?_)
                      refine lv_iinc (v := (nI (k + 1))) (lv' := [(8, .int (nI (k + 1))), (3, .long (mxL h3 ((r_63).toInt64))), (7, .int (nI u9)), (6, .int (if i = 0 then 1 else -1)), (5, .int (nI i)), (0, .ref xo), (1, .long xh)]) hx hb dX8_hashOfLeaps_71 hl (k := 1) rfl (nI_1 k) (by decide) rfl (fun ls hl => ?_)
                      refine lv_goto (tgt := 35) hx hb dX8_hashOfLeaps_74 (by decide) ?_
                      exact ih_35 (k + 1) (mxL h3 ((r_63).toInt64)) u_63.1 u_63.2.1 u_63.2.2.1 u_63.2.2.2.1 u_63.2.2.2.2.1 u_63.2.2.2.2.2.1 u_63.2.2.2.2.2.2 (by omega) (by omega) (by rw [hv3, hq_63]; exact (hL_s _ _ _).symm) _ _ (hP) (hD) hS _ (lv_sub hl [0, 2, 3, 4, 1, 5, 6] rfl)
                exact loop_35 _ 0 h2 va2 vb2 vc2 vd2 ve2 vf2 vg2 (Nat.lt_succ_self _) (Nat.zero_le _) (rfl) _ _ hP hD hS _ (lv_sub hl [0, 1, 2, 3, 4, 5, 6] rfl)
          exact loop_26 _ 0 h1 va1 vb1 vc1 vd1 ve1 vf1 vg1 (Nat.lt_succ_self _) (Nat.zero_le _) (rfl) _ _ hP hD hS _ (lv_sub hl [0, 1, 2, 3, 4, 5] rfl)
  exact loop_5 _ 0 xh fc fr ft fo fm fs fi (Nat.lt_succ_self _) (Nat.zero_le _) (rfl) _ _ hP hD hS _ (lv_sub hl [0, 1, 2, 3] rfl)
