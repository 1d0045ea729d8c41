/-! flights, over any answer B of 'is there a block' -/
def max2 (a b : Int32) : Int32 := if a < b then b else a
def min2 (a b : Int32) : Int32 := if b < a then b else a
def sideF (B : Int32 → Int32 → Bool) (d r : Int32) : Nat → Int32 → Int32 × Bool
  | 0, c => (c, false)
  | n + 1, c => if B (c + d) r = true then (c, true) else sideF B d r n (c + d)
def upF (B : Int32 → Int32 → Bool) (c : Int32) : Nat → Int32 → Int32 × Bool
  | 0, r => (r, false)
  | n + 1, r => if B c (r + 1) = true then (r, true) else upF B c n (r + 1)
def downF (B : Int32 → Int32 → Bool) (c : Int32) : Nat → Int32 → Int32 × Bool
  | 0, r => (r, false)
  | n + 1, r => if B c (r - 1) = true then (r, true) else downF B c n (r - 1)
def stepsF (met : Bool) (ri sl : Int32) : Nat := (if met = true then min2 (-ri) sl else -ri).toNatClampNeg
abbrev FS : Type := Int32 × Int32 × Int32 × Int32 × Bool × Int32 × Int32
def flyF (B : Int32 → Int32 → Bool) (d fa sl : Int32) : Nat → Int32 → Int32 → Int32 → Int32 → Bool → Int32 → Int32 → FS
  | 0, c, r, t, o, me, sp, ri => (c, r, t, o, me, sp, ri)
  | n + 1, c, r, t, o, me, sp, ri =>
    if 0 < ri then flyF B d fa sl n (sideF B d r sp.toNatClampNeg c).1 (upF B (sideF B d r sp.toNatClampNeg c).1 ri.toNatClampNeg r).1 (t + 1) (max2 o (upF B (sideF B d r sp.toNatClampNeg c).1 ri.toNatClampNeg r).1) (me || (sideF B d r sp.toNatClampNeg c).2) (if (sideF B d r sp.toNatClampNeg c).2 = true then 0 else sp) (max2 ((if (upF B (sideF B d r sp.toNatClampNeg c).1 ri.toNatClampNeg r).2 = true then 0 else ri) - 1) (-fa))
    else if (downF B (sideF B d r sp.toNatClampNeg c).1 (stepsF (me || (sideF B d r sp.toNatClampNeg c).2) ri sl) r).2 = true then ((sideF B d r sp.toNatClampNeg c).1, (downF B (sideF B d r sp.toNatClampNeg c).1 (stepsF (me || (sideF B d r sp.toNatClampNeg c).2) ri sl) r).1, t + 1, max2 o (downF B (sideF B d r sp.toNatClampNeg c).1 (stepsF (me || (sideF B d r sp.toNatClampNeg c).2) ri sl) r).1, (me || (sideF B d r sp.toNatClampNeg c).2), (if (sideF B d r sp.toNatClampNeg c).2 = true then 0 else sp), max2 (ri - 1) (-fa))
    else flyF B d fa sl n (sideF B d r sp.toNatClampNeg c).1 (downF B (sideF B d r sp.toNatClampNeg c).1 (stepsF (me || (sideF B d r sp.toNatClampNeg c).2) ri sl) r).1 (t + 1) (max2 o (downF B (sideF B d r sp.toNatClampNeg c).1 (stepsF (me || (sideF B d r sp.toNatClampNeg c).2) ri sl) r).1) (me || (sideF B d r sp.toNatClampNeg c).2) (if (sideF B d r sp.toNatClampNeg c).2 = true then 0 else sp) (max2 (ri - 1) (-fa))
theorem cl_lt (x : Int32) : x.toNatClampNeg < 2 ^ 31 := by
  have h := x.toInt_lt
  have e : (x.toNatClampNeg : Int) = max x.toInt 0 := by
    rw [show x.toNatClampNeg = x.toInt.toNat from rfl]
    omega
  omega
theorem cl_int (x : Int32) : (x.toNatClampNeg : Int) = if x.toInt < 0 then 0 else x.toInt := by
  rw [show x.toNatClampNeg = x.toInt.toNat from rfl]
  split <;> omega
theorem lt_cl {x : Int32} {i : Nat} (hi : i < 2 ^ 31) : nI i < x ↔ i < x.toNatClampNeg := by
  rw [Int32.lt_iff_toInt_lt, nI_toInt hi]
  have h := cl_int x
  split at h <;> omega
theorem le_cl {x : Int32} {i : Nat} (hi : i < 2 ^ 31) : x ≤ nI i ↔ x.toNatClampNeg ≤ i := by
  rw [Int32.le_iff_toInt_le, nI_toInt hi]
  have h := cl_int x
  split at h <;> omega
theorem le_cl' {x : Int32} {i : Nat} (hi : i ≤ x.toNatClampNeg) (h : ¬ x ≤ nI i) : i < x.toNatClampNeg := by
  have h2 := cl_lt x
  exact Nat.lt_of_not_le fun q => h ((le_cl (by omega)).mpr q)
theorem at30 (f : Nat → Int32) : atX 3 f 0 = f 0 := rfl
theorem at31 (f : Nat → Int32) : atX 3 f 1 = f 1 := rfl
theorem at32 (f : Nat → Int32) : atX 3 f 2 = f 2 := rfl
set_option maxHeartbeats 4000000 in
set_option maxRecDepth 100000 in
theorem m_stepAside (l : Launch) (D : va_G) (cI cZ cW cJ : ClassId) (A : Nat → Prop) (X : va_W) (f : Nat) (fc fr ft fo fm fs fi : Int32) (w wb ws : Nat) (wc wr wl ww wf : Int32) (wbl : Nat → Int32) (xd : Int32) : Met l yX0_stepAside wsX0_stepAside ({ frames := 1, cells := 0, slots := 0, locals := 22 }) (va_Pc [.ref f, .ref w, .int xd] (wd D (tyL cI cZ cW cJ) A (oX0 f fc fr ft fo fm fs fi :: oX7 w wb ws wc wr wl ww wf :: aI cI wb 10 wbl :: X))) (va_Qv (fun (u : Int32 × Int32 × Int32) => u.1 = (sideF (blkX wbl) xd fr fs.toNatClampNeg fc).1 ∧ u.2.1 = (if (sideF (blkX wbl) xd fr fs.toNatClampNeg fc).2 = true then 1 else fm) ∧ u.2.2 = (if (sideF (blkX wbl) xd fr fs.toNatClampNeg fc).2 = true then 0 else fs)) (fun (u : Int32 × Int32 × Int32) t => wq D A (oX0 f u.1 fr ft fo u.2.1 u.2.2 fi :: oX7 w wb ws wc wr wl ww wf :: aI cI wb 10 wbl :: X) t) A) 0 0 A := by
  refine Met.ofW (cc := cX0_stepAside) (maxL := 4) (ret := none) (by decide) rfl ?_
  intro p e s m args below meth c s₁ B hml hv
  obtain ⟨rfl, hsz9, hP, hK, hD, hN⟩ := hv
  have hx := B.exec
  have hb := B.bytes
  have hr := B.returns
  have hts := atoms_spec (ws := wsX0_stepAside) B.pre
  have hown : s.vm.findClass RX0 = some m.cls := findClass_of_methodNamed B.named
  have hlocks := B.notSynchronized
  have CF : CallFix p m c cX0_stepAside 4 s _ wsX0_stepAside RX0 := ⟨hx, hb, hml, hown, hts⟩
  have hA : ∀ q : Nat, s.heap.size ≤ q → A q := hsz9
  have hS : va_S A s.heap s.heap [] := va_S.rf
  have hiX0 : ∀ w ∈ u_ws RX0 TX0 7, w ∈ wsX0_stepAside := fun _ h => List.mem_cons_of_mem _ (List.mem_append_left _ (List.mem_append_right _ (h)))
  have hl := lv_entry ([.ref f, .ref w, .int xd]) (n := 4) (Nat.le_of_ble_eq_true rfl)
  rw [lg_entry_eq]
  generalize (lg_sl ([.ref f, .ref w, .int xd]) ++ List.replicate (4 - (lg_sl ([.ref f, .ref w, .int xd])).length) Slot.unset).toArray = ls at hl ⊢
  have hl : lv_has ls 4 [(0, .ref f), (1, .ref w), (2, .int xd)] := hl
  show W p l e ({ frames := 1, cells := 0, slots := 0, locals := 22 } : Room) s m (([.ref f, .ref w, .int xd] : List Value).toArray) below meth c s.heap [] 0 0 (MQ below (va_Qv (fun (u : Int32 × Int32 × Int32) => u.1 = (sideF (blkX wbl) xd fr fs.toNatClampNeg fc).1 ∧ u.2.1 = (if (sideF (blkX wbl) xd fr fs.toNatClampNeg fc).2 = true then 1 else fm) ∧ u.2.2 = (if (sideF (blkX wbl) xd fr fs.toNatClampNeg fc).2 = true then 0 else fs)) (fun (u : Int32 × Int32 × Int32) t => wq D A (oX0 f u.1 fr ft fo u.2.1 u.2.2 fi :: oX7 w wb ws wc wr wl ww wf :: aI cI wb 10 wbl :: X) t) A) (([.ref f, .ref w, .int xd] : List Value).toArray) s 0 0 A) (F0 m 0 ls [])
  refine lv_iconst (v := 0) hx hb dX0_stepAside_0 (by decide) ?_
  refine lv_istore_n (lv' := [(3, .int 0), (0, .ref f), (1, .ref w), (2, .int xd)]) hx hb dX0_stepAside_1 rfl hl (by decide) rfl (fun ls hl => ?_)
  have loop_2 : ∀ (nfu : Nat) (i : Nat) (y : Int32) (hn_2 : fs.toNatClampNeg - i < nfu) (hi : i ≤ fs.toNatClampNeg) (hv : sideF (blkX wbl) xd fr (fs.toNatClampNeg - i) y = sideF (blkX wbl) xd fr fs.toNatClampNeg fc) (H : Heap) (locs : List Loc) (hP : va_P D vwCl (oX0 f y fr ft fo fm fs fi :: oX7 w wb ws wc wr wl ww wf :: aI cI wb 10 wbl :: X) H) (hD : va_D A (oX0 f y fr ft fo fm fs fi :: oX7 w wb ws wc wr wl ww wf :: aI cI wb 10 wbl :: X)) (hS : va_S A s.heap H locs) (ls : Array Slot) (hl : lv_has ls 4 [(3, .int (nI i)), (0, .ref f), (1, .ref w), (2, .int xd)]), W p l e ({ frames := 1, cells := 0, slots := 0, locals := 22 } : Room) s m (([.ref f, .ref w, .int xd] : List Value).toArray) below meth c H locs 0 0 (MQ below (va_Qv (fun (u : Int32 × Int32 × Int32) => u.1 = (sideF (blkX wbl) xd fr fs.toNatClampNeg fc).1 ∧ u.2.1 = (if (sideF (blkX wbl) xd fr fs.toNatClampNeg fc).2 = true then 1 else fm) ∧ u.2.2 = (if (sideF (blkX wbl) xd fr fs.toNatClampNeg fc).2 = true then 0 else fs)) (fun (u : Int32 × Int32 × Int32) t => wq D A (oX0 f u.1 fr ft fo u.2.1 u.2.2 fi :: oX7 w wb ws wc wr wl ww wf :: aI cI wb 10 wbl :: X) t) A) (([.ref f, .ref w, .int xd] : List Value).toArray) s 0 0 A) (F0 m 2 ls []) := by
    intro nfu
    induction nfu with
    | zero => intro i y hn_2; exact absurd hn_2 (Nat.not_lt_zero _)
    | succ nfu ih_2 =>
      intro i y hn_2 hi hv H locs hP hD hS ls hl
      refine lv_iload_n hx hb dX0_stepAside_2 rfl (lv_at hl 0 rfl) ?_
      refine lv_aload_n hx hb dX0_stepAside_3 rfl (lv_at hl 1 rfl) ?_
      refine va_get (D := D) (ci := 0) (v := .int fs) (C := RX0) (T := TX0) (N := 7) hx hb hts hiX0 hown hK hP 0 rfl rfl 5 (by decide) (hts (.fieldLink RX0 25 "LedgeLeaps$Flight" "speed" "I") (List.mem_of_getElem? (i := 1) rfl)) (fun _ h9 => h9) rfl dX0_stepAside_4 ?_
      refine lv_icmp_ge (tgt := 54) hx hb dX0_stepAside_7 (by decide) (fun c_7 => ?_) (fun c_7 => ?_)
      · exact W.vret hx hb hr (fun t9 ht9 hW9 => ⟨⟨(y, fm, fs), rfl, by rw [← hv, show fs.toNatClampNeg - i = 0 by have h := (le_cl (by have := cl_lt fs; omega)).mp c_7; omega]; exact ⟨rfl, rfl, rfl⟩, by rw [ht9]; exact hP, hD⟩, hS.F ht9⟩) hS.2.2 dX0_stepAside_54
      · refine lv_aload_n hx hb dX0_stepAside_10 rfl (lv_at hl 2 rfl) ?_
        refine lv_aload_n hx hb dX0_stepAside_11 rfl (lv_at hl 1 rfl) ?_
        refine va_get (D := D) (ci := 0) (v := .int y) (C := RX0) (T := TX0) (N := 7) hx hb hts hiX0 hown hK hP 0 rfl rfl 0 (by decide) (hts (.fieldLink RX0 9 "LedgeLeaps$Flight" "column" "I") (List.mem_of_getElem? (i := 2) rfl)) (fun _ h9 => h9) rfl dX0_stepAside_12 ?_
        refine lv_iload_n hx hb dX0_stepAside_15 rfl (lv_at hl 3 rfl) ?_
        refine lv_iadd hx hb dX0_stepAside_16 ?_
        refine lv_aload_n hx hb dX0_stepAside_17 rfl (lv_at hl 1 rfl) ?_
        refine va_get (D := D) (ci := 0) (v := .int fr) (C := RX0) (T := TX0) (N := 7) hx hb hts hiX0 hown hK hP 0 rfl rfl 1 (by decide) (hts (.fieldLink RX0 15 "LedgeLeaps$Flight" "row" "I") (List.mem_of_getElem? (i := 3) rfl)) (fun _ h9 => h9) rfl dX0_stepAside_18 ?_
        refine cV_i CF hK hN hA hS (cut_of 3 [1, 2, 0] hP hD rfl rfl rfl) (m_isBlock l D cI cZ cW cJ A (oX0 f y fr ft fo fm fs fi :: X) w wb ws wc wr wl ww wf wbl (y + xd) fr) (cwV 2 hts gX0_stepAside_X7_isBlock rfl rfl rfl (by decide +kernel) ⟨Nat.le_of_ble_eq_true rfl, Nat.le_of_ble_eq_true rfl⟩) (As := [.int (y + xd), .int fr]) (rest := []) (ci := 7) (q0 := 0) rfl rfl rfl hl.1 rfl (Nat.le_of_ble_eq_true rfl) dX0_stepAside_21 ⟨Nat.le_of_ble_eq_true rfl, Nat.le_of_ble_eq_true rfl⟩ (fun r_21 _ H locs hq hP hD hS => ?_)
        have hq : r_21 = bI (blkX wbl (y + xd) fr) := hq
        subst hq
        have hP : va_P D vwCl (oX0 f y fr ft fo fm fs fi :: oX7 w wb ws wc wr wl ww wf :: aI cI wb 10 wbl :: X) H := pm_P hP 3 [2, 0, 1] rfl
        have hD : va_D A (oX0 f y fr ft fo fm fs fi :: oX7 w wb ws wc wr wl ww wf :: aI cI wb 10 wbl :: X) := pm_D hD 3 [2, 0, 1] rfl rfl rfl
        refine lv_if_eq (tgt := 38) hx hb dX0_stepAside_24 (by decide) (fun c_24 => ?_) (fun c_24 => ?_)
        · refine lv_aload_n hx hb dX0_stepAside_38 rfl (lv_at hl 1 rfl) ?_
          refine lv_dup hx hb dX0_stepAside_39 rfl ?_
          refine va_get (D := D) (ci := 0) (v := .int y) (C := RX0) (T := TX0) (N := 7) hx hb hts hiX0 hown hK hP 0 rfl rfl 0 (by decide) (hts (.fieldLink RX0 9 "LedgeLeaps$Flight" "column" "I") (List.mem_of_getElem? (i := 2) rfl)) (fun _ h9 => h9) rfl dX0_stepAside_40 ?_
          refine lv_iload_n hx hb dX0_stepAside_43 rfl (lv_at hl 3 rfl) ?_
          refine lv_iadd hx hb dX0_stepAside_44 ?_
          refine va_put (D := D) (ci := 0) (v := .int (y + xd)) (ty := .int) (C := RX0) (T := TX0) (N := 7) hx hb hts hiX0 tyX0 tyX0_ok nmX0 hown hK hP hD hS 0 rfl rfl 0 (by decide) (hts (.fieldLink RX0 9 "LedgeLeaps$Flight" "column" "I") (List.mem_of_getElem? (i := 2) rfl)) (fun _ h9 => h9) rfl (by decide +kernel) rfl rfl (Nat.le_of_ble_eq_true rfl) dX0_stepAside_45 (fun H locs hP hD hS => ?_)
          have hP : va_P D vwCl (oX0 f (y + xd) fr ft fo fm fs fi :: oX7 w wb ws wc wr wl ww wf :: aI cI wb 10 wbl :: X) H := hP
          have hD : va_D A (oX0 f (y + xd) fr ft fo fm fs fi :: oX7 w wb ws wc wr wl ww wf :: aI cI wb 10 wbl :: X) := hD
          refine lv_iinc (v := (nI (i + 1))) (lv' := [(3, .int (nI (i + 1))), (0, .ref f), (1, .ref w), (2, .int xd)]) hx hb dX0_stepAside_48 hl (k := 0) rfl (nI_1 i) (by decide) rfl (fun ls hl => ?_)
          refine lv_goto (tgt := 2) hx hb dX0_stepAside_51 (by decide) ?_
          exact ih_2 (i + 1) (y + xd) (by have h := le_cl' hi c_7; omega) (le_cl' hi c_7) (by rw [← hv, show fs.toNatClampNeg - i = (fs.toNatClampNeg - (i + 1)) + 1 by have h := le_cl' hi c_7; omega, sideF, if_neg (by simp [bf_c c_24])]) _ _ (hP) (hD) hS _ (lv_sub hl [0, 1, 2, 3] rfl)
        · refine lv_aload_n hx hb dX0_stepAside_27 rfl (lv_at hl 1 rfl) ?_
          refine lv_iconst (v := 0) hx hb dX0_stepAside_28 (by decide) ?_
          refine va_put (D := D) (ci := 0) (v := .int 0) (ty := .int) (C := RX0) (T := TX0) (N := 7) hx hb hts hiX0 tyX0 tyX0_ok nmX0 hown hK hP hD hS 0 rfl rfl 5 (by decide) (hts (.fieldLink RX0 25 "LedgeLeaps$Flight" "speed" "I") (List.mem_of_getElem? (i := 1) rfl)) (fun _ h9 => h9) rfl (by decide +kernel) rfl rfl (Nat.le_of_ble_eq_true rfl) dX0_stepAside_29 (fun H locs hP hD hS => ?_)
          have hP : va_P D vwCl (oX0 f y fr ft fo fm 0 fi :: oX7 w wb ws wc wr wl ww wf :: aI cI wb 10 wbl :: X) H := hP
          have hD : va_D A (oX0 f y fr ft fo fm 0 fi :: oX7 w wb ws wc wr wl ww wf :: aI cI wb 10 wbl :: X) := hD
          refine lv_aload_n hx hb dX0_stepAside_32 rfl (lv_at hl 1 rfl) ?_
          refine lv_iconst (v := 1) hx hb dX0_stepAside_33 (by decide) ?_
          refine va_put (D := D) (ci := 0) (v := .int 1) (ty := .boolean) (C := RX0) (T := TX0) (N := 7) hx hb hts hiX0 tyX0 tyX0_ok nmX0 hown hK hP hD hS 0 rfl rfl 4 (by decide) (hts (.fieldLink RX0 21 "LedgeLeaps$Flight" "wallIsMet" "Z") (List.mem_of_getElem? (i := 4) rfl)) (fun _ h9 => h9) rfl (by decide +kernel) rfl rfl (Nat.le_of_ble_eq_true rfl) dX0_stepAside_34 (fun H locs hP hD hS => ?_)
          have hP : va_P D vwCl (oX0 f y fr ft fo 1 0 fi :: oX7 w wb ws wc wr wl ww wf :: aI cI wb 10 wbl :: X) H := hP
          have hD : va_D A (oX0 f y fr ft fo 1 0 fi :: oX7 w wb ws wc wr wl ww wf :: aI cI wb 10 wbl :: X) := hD
          exact W.vret hx hb hr (fun t9 ht9 hW9 => ⟨⟨(y, 1, 0), rfl, by rw [← hv, show fs.toNatClampNeg - i = (fs.toNatClampNeg - (i + 1)) + 1 by have h := le_cl' hi c_7; omega, sideF, if_pos (bt_c c_24)]; exact ⟨rfl, rfl, rfl⟩, by rw [ht9]; exact hP, hD⟩, hS.F ht9⟩) hS.2.2 dX0_stepAside_37
  exact loop_2 _ 0 fc (Nat.lt_succ_self _) (Nat.zero_le _) (rfl) _ _ hP hD hS _ (lv_sub hl [0, 1, 2, 3] rfl)
set_option maxHeartbeats 4000000 in
set_option maxRecDepth 100000 in
theorem m_stepUp (l : Launch) (D : va_G) (cI cZ cW cJ : ClassId) (A : Nat → Prop) (X : va_W) (f : Nat) (fc fr ft fo fm fs fi : Int32) (w wb ws : Nat) (wc wr wl ww wf : Int32) (wbl : Nat → Int32) : Met l yX0_stepUp wsX0_stepUp ({ frames := 1, cells := 0, slots := 0, locals := 22 }) (va_Pc [.ref f, .ref w] (wd D (tyL cI cZ cW cJ) A (oX0 f fc fr ft fo fm fs fi :: oX7 w wb ws wc wr wl ww wf :: aI cI wb 10 wbl :: X))) (va_Qv (fun (u : Int32 × Int32) => u.1 = (upF (blkX wbl) fc fi.toNatClampNeg fr).1 ∧ u.2 = (if (upF (blkX wbl) fc fi.toNatClampNeg fr).2 = true then 0 else fi)) (fun (u : Int32 × Int32) t => wq D A (oX0 f fc u.1 ft fo fm fs u.2 :: oX7 w wb ws wc wr wl ww wf :: aI cI wb 10 wbl :: X) t) A) 0 0 A := by
  refine Met.ofW (cc := cX0_stepUp) (maxL := 3) (ret := none) (by decide) rfl ?_
  intro p e s m args below meth c s₁ B hml hv
  obtain ⟨rfl, hsz9, hP, hK, hD, hN⟩ := hv
  have hx := B.exec
  have hb := B.bytes
  have hr := B.returns
  have hts := atoms_spec (ws := wsX0_stepUp) B.pre
  have hown : s.vm.findClass RX0 = some m.cls := findClass_of_methodNamed B.named
  have hlocks := B.notSynchronized
  have CF : CallFix p m c cX0_stepUp 3 s _ wsX0_stepUp RX0 := ⟨hx, hb, hml, hown, hts⟩
  have hA : ∀ q : Nat, s.heap.size ≤ q → A q := hsz9
  have hS : va_S A s.heap s.heap [] := va_S.rf
  have hiX0 : ∀ w ∈ u_ws RX0 TX0 7, w ∈ wsX0_stepUp := fun _ h => List.mem_cons_of_mem _ (List.mem_append_left _ (List.mem_append_right _ (h)))
  have hl := lv_entry ([.ref f, .ref w]) (n := 3) (Nat.le_of_ble_eq_true rfl)
  rw [lg_entry_eq]
  generalize (lg_sl ([.ref f, .ref w]) ++ List.replicate (3 - (lg_sl ([.ref f, .ref w])).length) Slot.unset).toArray = ls at hl ⊢
  have hl : lv_has ls 3 [(0, .ref f), (1, .ref w)] := hl
  show W p l e ({ frames := 1, cells := 0, slots := 0, locals := 22 } : Room) s m (([.ref f, .ref w] : List Value).toArray) below meth c s.heap [] 0 0 (MQ below (va_Qv (fun (u : Int32 × Int32) => u.1 = (upF (blkX wbl) fc fi.toNatClampNeg fr).1 ∧ u.2 = (if (upF (blkX wbl) fc fi.toNatClampNeg fr).2 = true then 0 else fi)) (fun (u : Int32 × Int32) t => wq D A (oX0 f fc u.1 ft fo fm fs u.2 :: oX7 w wb ws wc wr wl ww wf :: aI cI wb 10 wbl :: X) t) A) (([.ref f, .ref w] : List Value).toArray) s 0 0 A) (F0 m 0 ls [])
  refine lv_iconst (v := 0) hx hb dX0_stepUp_0 (by decide) ?_
  refine lv_istore_n (lv' := [(2, .int 0), (0, .ref f), (1, .ref w)]) hx hb dX0_stepUp_1 rfl hl (by decide) rfl (fun ls hl => ?_)
  have loop_2 : ∀ (nfu : Nat) (i : Nat) (y : Int32) (hn_2 : fi.toNatClampNeg - i < nfu) (hi : i ≤ fi.toNatClampNeg) (hv : upF (blkX wbl) fc (fi.toNatClampNeg - i) y = upF (blkX wbl) fc fi.toNatClampNeg fr) (H : Heap) (locs : List Loc) (hP : va_P D vwCl (oX0 f fc y ft fo fm fs fi :: oX7 w wb ws wc wr wl ww wf :: aI cI wb 10 wbl :: X) H) (hD : va_D A (oX0 f fc y ft fo fm fs fi :: oX7 w wb ws wc wr wl ww wf :: aI cI wb 10 wbl :: X)) (hS : va_S A s.heap H locs) (ls : Array Slot) (hl : lv_has ls 3 [(2, .int (nI i)), (0, .ref f), (1, .ref w)]), W p l e ({ frames := 1, cells := 0, slots := 0, locals := 22 } : Room) s m (([.ref f, .ref w] : List Value).toArray) below meth c H locs 0 0 (MQ below (va_Qv (fun (u : Int32 × Int32) => u.1 = (upF (blkX wbl) fc fi.toNatClampNeg fr).1 ∧ u.2 = (if (upF (blkX wbl) fc fi.toNatClampNeg fr).2 = true then 0 else fi)) (fun (u : Int32 × Int32) t => wq D A (oX0 f fc u.1 ft fo fm fs u.2 :: oX7 w wb ws wc wr wl ww wf :: aI cI wb 10 wbl :: X) t) A) (([.ref f, .ref w] : List Value).toArray) s 0 0 A) (F0 m 2 ls []) := by
    intro nfu
    induction nfu with
    | zero => intro i y hn_2; exact absurd hn_2 (Nat.not_lt_zero _)
    | succ nfu ih_2 =>
      intro i y hn_2 hi hv H locs hP hD hS ls hl
      refine lv_iload_n hx hb dX0_stepUp_2 rfl (lv_at hl 0 rfl) ?_
      refine lv_aload_n hx hb dX0_stepUp_3 rfl (lv_at hl 1 rfl) ?_
      refine va_get (D := D) (ci := 0) (v := .int fi) (C := RX0) (T := TX0) (N := 7) hx hb hts hiX0 hown hK hP 0 rfl rfl 6 (by decide) (hts (.fieldLink RX0 38 "LedgeLeaps$Flight" "rise" "I") (List.mem_of_getElem? (i := 1) rfl)) (fun _ h9 => h9) rfl dX0_stepUp_4 ?_
      refine lv_icmp_ge (tgt := 49) hx hb dX0_stepUp_7 (by decide) (fun c_7 => ?_) (fun c_7 => ?_)
      · exact W.vret hx hb hr (fun t9 ht9 hW9 => ⟨⟨(y, fi), rfl, by rw [← hv, show fi.toNatClampNeg - i = 0 by have h := (le_cl (by have := cl_lt fi; omega)).mp c_7; omega]; exact ⟨rfl, rfl⟩, by rw [ht9]; exact hP, hD⟩, hS.F ht9⟩) hS.2.2 dX0_stepUp_49
      · refine lv_aload_n hx hb dX0_stepUp_10 rfl (lv_at hl 2 rfl) ?_
        refine lv_aload_n hx hb dX0_stepUp_11 rfl (lv_at hl 1 rfl) ?_
        refine va_get (D := D) (ci := 0) (v := .int fc) (C := RX0) (T := TX0) (N := 7) hx hb hts hiX0 hown hK hP 0 rfl rfl 0 (by decide) (hts (.fieldLink RX0 9 "LedgeLeaps$Flight" "column" "I") (List.mem_of_getElem? (i := 2) rfl)) (fun _ h9 => h9) rfl dX0_stepUp_12 ?_
        refine lv_aload_n hx hb dX0_stepUp_15 rfl (lv_at hl 1 rfl) ?_
        refine va_get (D := D) (ci := 0) (v := .int y) (C := RX0) (T := TX0) (N := 7) hx hb hts hiX0 hown hK hP 0 rfl rfl 1 (by decide) (hts (.fieldLink RX0 15 "LedgeLeaps$Flight" "row" "I") (List.mem_of_getElem? (i := 3) rfl)) (fun _ h9 => h9) rfl dX0_stepUp_16 ?_
        refine lv_iconst (v := 1) hx hb dX0_stepUp_19 (by decide) ?_
        refine lv_iadd hx hb dX0_stepUp_20 ?_
        refine cV_i CF hK hN hA hS (cut_of 3 [1, 2, 0] hP hD rfl rfl rfl) (m_isBlock l D cI cZ cW cJ A (oX0 f fc y ft fo fm fs fi :: X) w wb ws wc wr wl ww wf wbl fc (y + 1)) (cwV 2 hts gX0_stepUp_X7_isBlock rfl rfl rfl (by decide +kernel) ⟨Nat.le_of_ble_eq_true rfl, Nat.le_of_ble_eq_true rfl⟩) (As := [.int fc, .int (y + 1)]) (rest := []) (ci := 7) (q0 := 0) rfl rfl rfl hl.1 rfl (Nat.le_of_ble_eq_true rfl) dX0_stepUp_21 ⟨Nat.le_of_ble_eq_true rfl, Nat.le_of_ble_eq_true rfl⟩ (fun r_21 _ H locs hq hP hD hS => ?_)
        have hq : r_21 = bI (blkX wbl fc (y + 1)) := hq
        subst hq
        have hP : va_P D vwCl (oX0 f fc y ft fo fm fs fi :: oX7 w wb ws wc wr wl ww wf :: aI cI wb 10 wbl :: X) H := pm_P hP 3 [2, 0, 1] rfl
        have hD : va_D A (oX0 f fc y ft fo fm fs fi :: oX7 w wb ws wc wr wl ww wf :: aI cI wb 10 wbl :: X) := pm_D hD 3 [2, 0, 1] rfl rfl rfl
        refine lv_if_eq (tgt := 33) hx hb dX0_stepUp_24 (by decide) (fun c_24 => ?_) (fun c_24 => ?_)
        · refine lv_aload_n hx hb dX0_stepUp_33 rfl (lv_at hl 1 rfl) ?_
          refine lv_dup hx hb dX0_stepUp_34 rfl ?_
          refine va_get (D := D) (ci := 0) (v := .int y) (C := RX0) (T := TX0) (N := 7) hx hb hts hiX0 hown hK hP 0 rfl rfl 1 (by decide) (hts (.fieldLink RX0 15 "LedgeLeaps$Flight" "row" "I") (List.mem_of_getElem? (i := 3) rfl)) (fun _ h9 => h9) rfl dX0_stepUp_35 ?_
          refine lv_iconst (v := 1) hx hb dX0_stepUp_38 (by decide) ?_
          refine lv_iadd hx hb dX0_stepUp_39 ?_
          refine va_put (D := D) (ci := 0) (v := .int (y + 1)) (ty := .int) (C := RX0) (T := TX0) (N := 7) hx hb hts hiX0 tyX0 tyX0_ok nmX0 hown hK hP hD hS 0 rfl rfl 1 (by decide) (hts (.fieldLink RX0 15 "LedgeLeaps$Flight" "row" "I") (List.mem_of_getElem? (i := 3) rfl)) (fun _ h9 => h9) rfl (by decide +kernel) rfl rfl (Nat.le_of_ble_eq_true rfl) dX0_stepUp_40 (fun H locs hP hD hS => ?_)
          have hP : va_P D vwCl (oX0 f fc (y + 1) ft fo fm fs fi :: oX7 w wb ws wc wr wl ww wf :: aI cI wb 10 wbl :: X) H := hP
          have hD : va_D A (oX0 f fc (y + 1) ft fo fm fs fi :: oX7 w wb ws wc wr wl ww wf :: aI cI wb 10 wbl :: X) := hD
          refine lv_iinc (v := (nI (i + 1))) (lv' := [(2, .int (nI (i + 1))), (0, .ref f), (1, .ref w)]) hx hb dX0_stepUp_43 hl (k := 0) rfl (nI_1 i) (by decide) rfl (fun ls hl => ?_)
          refine lv_goto (tgt := 2) hx hb dX0_stepUp_46 (by decide) ?_
          exact ih_2 (i + 1) (y + 1) (by have h := le_cl' hi c_7; omega) (le_cl' hi c_7) (by rw [← hv, show fi.toNatClampNeg - i = (fi.toNatClampNeg - (i + 1)) + 1 by have h := le_cl' hi c_7; omega, upF, if_neg (by simp [bf_c c_24])]) _ _ (hP) (hD) hS _ (lv_sub hl [0, 1, 2] rfl)
        · refine lv_aload_n hx hb dX0_stepUp_27 rfl (lv_at hl 1 rfl) ?_
          refine lv_iconst (v := 0) hx hb dX0_stepUp_28 (by decide) ?_
          refine va_put (D := D) (ci := 0) (v := .int 0) (ty := .int) (C := RX0) (T := TX0) (N := 7) hx hb hts hiX0 tyX0 tyX0_ok nmX0 hown hK hP hD hS 0 rfl rfl 6 (by decide) (hts (.fieldLink RX0 38 "LedgeLeaps$Flight" "rise" "I") (List.mem_of_getElem? (i := 1) rfl)) (fun _ h9 => h9) rfl (by decide +kernel) rfl rfl (Nat.le_of_ble_eq_true rfl) dX0_stepUp_29 (fun H locs hP hD hS => ?_)
          have hP : va_P D vwCl (oX0 f fc y ft fo fm fs 0 :: oX7 w wb ws wc wr wl ww wf :: aI cI wb 10 wbl :: X) H := hP
          have hD : va_D A (oX0 f fc y ft fo fm fs 0 :: oX7 w wb ws wc wr wl ww wf :: aI cI wb 10 wbl :: X) := hD
          exact W.vret hx hb hr (fun t9 ht9 hW9 => ⟨⟨(y, 0), rfl, by rw [← hv, show fi.toNatClampNeg - i = (fi.toNatClampNeg - (i + 1)) + 1 by have h := le_cl' hi c_7; omega, upF, if_pos (bt_c c_24)]; exact ⟨rfl, rfl⟩, by rw [ht9]; exact hP, hD⟩, hS.F ht9⟩) hS.2.2 dX0_stepUp_32
  exact loop_2 _ 0 fr (Nat.lt_succ_self _) (Nat.zero_le _) (rfl) _ _ hP hD hS _ (lv_sub hl [0, 1, 2] rfl)
set_option maxHeartbeats 4000000 in
set_option maxRecDepth 100000 in
theorem m_ends (l : Launch) (D : va_G) (cI cZ cW cJ : ClassId) (A : Nat → Prop) (X : va_W) (f : Nat) (fc fr ft fo fs fi : Int32) (fb : Bool) (w wb ws : Nat) (wc wr wl ww wf : Int32) (wbl wse : Nat → Int32) : Met l yX0_endsSteppingDown wsX0_endsSteppingDown ({ frames := 1, cells := 0, slots := 0, locals := 22 }) (va_Pc [.ref f, .ref w] (wd D (tyL cI cZ cW cJ) A (oX0 f fc fr ft fo (bI fb) fs fi :: oX7 w wb ws wc wr wl ww wf :: aI cI wb 10 wbl :: aI cI ws 3 wse :: X))) (va_Qi (fun (r : Int32) (u : Int32) => r = bI (downF (blkX wbl) fc (stepsF fb fi (wse 2)) fr).2 ∧ u = (downF (blkX wbl) fc (stepsF fb fi (wse 2)) fr).1) (fun (u : Int32) t => wq D A (oX0 f fc u ft fo (bI fb) fs fi :: oX7 w wb ws wc wr wl ww wf :: aI cI wb 10 wbl :: aI cI ws 3 wse :: X) t) A) 0 0 A := by
  refine Met.ofW (cc := cX0_endsSteppingDown) (maxL := 4) (ret := (some .boolean)) (by decide) rfl ?_
  intro p e s m args below meth c s₁ B hml hv
  obtain ⟨rfl, hsz9, hP, hK, hD, hN⟩ := hv
  have hx := B.exec
  have hb := B.bytes
  have hr := B.returns
  have hts := atoms_spec (ws := wsX0_endsSteppingDown) B.pre
  have hown : s.vm.findClass RX0 = some m.cls := findClass_of_methodNamed B.named
  have hlocks := B.notSynchronized
  have CF : CallFix p m c cX0_endsSteppingDown 4 s _ wsX0_endsSteppingDown RX0 := ⟨hx, hb, hml, hown, hts⟩
  have hA : ∀ q : Nat, s.heap.size ≤ q → A q := hsz9
  have hS : va_S A s.heap s.heap [] := va_S.rf
  have hiX0 : ∀ w ∈ u_ws RX0 TX0 7, w ∈ wsX0_endsSteppingDown := fun _ h => List.mem_cons_of_mem _ (List.mem_append_left _ (List.mem_append_right _ (h)))
  have hiX7 : ∀ w ∈ u_ws RX7 TX7 7, w ∈ wsX0_endsSteppingDown := fun _ h => List.mem_cons_of_mem _ (List.mem_append_right _ (h))
  have hl := lv_entry ([.ref f, .ref w]) (n := 4) (Nat.le_of_ble_eq_true rfl)
  rw [lg_entry_eq]
  generalize (lg_sl ([.ref f, .ref w]) ++ List.replicate (4 - (lg_sl ([.ref f, .ref w])).length) Slot.unset).toArray = ls at hl ⊢
  have hl : lv_has ls 4 [(0, .ref f), (1, .ref w)] := hl
  show W p l e ({ frames := 1, cells := 0, slots := 0, locals := 22 } : Room) s m (([.ref f, .ref w] : List Value).toArray) below meth c s.heap [] 0 0 (MQ below (va_Qi (fun (r : Int32) (u : Int32) => r = bI (downF (blkX wbl) fc (stepsF fb fi (wse 2)) fr).2 ∧ u = (downF (blkX wbl) fc (stepsF fb fi (wse 2)) fr).1) (fun (u : Int32) t => wq D A (oX0 f fc u ft fo (bI fb) fs fi :: oX7 w wb ws wc wr wl ww wf :: aI cI wb 10 wbl :: aI cI ws 3 wse :: X) t) A) (([.ref f, .ref w] : List Value).toArray) s 0 0 A) (F0 m 0 ls [])
  refine lv_aload_n hx hb dX0_endsSteppingDown_0 rfl (lv_at hl 0 rfl) ?_
  refine va_get (D := D) (ci := 0) (v := .int (bI fb)) (C := RX0) (T := TX0) (N := 7) hx hb hts hiX0 hown hK hP 0 rfl rfl 4 (by decide) (hts (.fieldLink RX0 21 "LedgeLeaps$Flight" "wallIsMet" "Z") (List.mem_of_getElem? (i := 1) rfl)) (fun _ h9 => h9) rfl dX0_endsSteppingDown_1 ?_
  refine lv_if_eq (tgt := 26) hx hb dX0_endsSteppingDown_4 (by decide) (fun c_4 => ?_) (fun c_4 => ?_)
  · refine lv_aload_n hx hb dX0_endsSteppingDown_26 rfl (lv_at hl 0 rfl) ?_
    refine va_get (D := D) (ci := 0) (v := .int fi) (C := RX0) (T := TX0) (N := 7) hx hb hts hiX0 hown hK hP 0 rfl rfl 6 (by decide) (hts (.fieldLink RX0 38 "LedgeLeaps$Flight" "rise" "I") (List.mem_of_getElem? (i := 2) rfl)) (fun _ h9 => h9) rfl dX0_endsSteppingDown_27 ?_
    refine lv_ineg hx hb dX0_endsSteppingDown_30 ?_
    refine lv_istore_n (lv' := [(2, .int (-fi)), (0, .ref f), (1, .ref w)]) hx hb dX0_endsSteppingDown_31 rfl hl (by decide) rfl (fun ls hl => ?_)
    refine lv_iconst (v := 0) hx hb dX0_endsSteppingDown_32 (by decide) ?_
    refine lv_istore_n (lv' := [(3, .int 0), (2, .int (-fi)), (0, .ref f), (1, .ref w)]) hx hb dX0_endsSteppingDown_33 rfl hl (by decide) rfl (fun ls hl => ?_)
    have loop_34 : ∀ (nfu : Nat) (k : Int32) (i : Nat) (y : Int32) (hn_34 : k.toNatClampNeg - i < nfu) (hi : i ≤ k.toNatClampNeg) (hv : downF (blkX wbl) fc (k.toNatClampNeg - i) y = (downF (blkX wbl) fc (stepsF fb fi (wse 2)) fr)) (H : Heap) (locs : List Loc) (hP : va_P D vwCl (oX0 f fc y ft fo (bI fb) fs fi :: oX7 w wb ws wc wr wl ww wf :: aI cI wb 10 wbl :: aI cI ws 3 wse :: X) H) (hD : va_D A (oX0 f fc y ft fo (bI fb) fs fi :: oX7 w wb ws wc wr wl ww wf :: aI cI wb 10 wbl :: aI cI ws 3 wse :: X)) (hS : va_S A s.heap H locs) (ls : Array Slot) (hl : lv_has ls 4 [(3, .int (nI i)), (0, .ref f), (1, .ref w), (2, .int k)]), W p l e ({ frames := 1, cells := 0, slots := 0, locals := 22 } : Room) s m (([.ref f, .ref w] : List Value).toArray) below meth c H locs 0 0 (MQ below (va_Qi (fun (r : Int32) (u : Int32) => r = bI (downF (blkX wbl) fc (stepsF fb fi (wse 2)) fr).2 ∧ u = (downF (blkX wbl) fc (stepsF fb fi (wse 2)) fr).1) (fun (u : Int32) t => wq D A (oX0 f fc u ft fo (bI fb) fs fi :: oX7 w wb ws wc wr wl ww wf :: aI cI wb 10 wbl :: aI cI ws 3 wse :: X) t) A) (([.ref f, .ref w] : List Value).toArray) s 0 0 A) (F0 m 34 ls []) := by
      intro nfu
      induction nfu with
      | zero => intro k i y hn_34; exact absurd hn_34 (Nat.not_lt_zero _)
      | succ nfu ih_34 =>
        intro k i y hn_34 hi hv H locs hP hD hS ls hl
        refine lv_iload_n hx hb dX0_endsSteppingDown_34 rfl (lv_at hl 0 rfl) ?_
        refine lv_iload_n hx hb dX0_endsSteppingDown_35 rfl (lv_at hl 3 rfl) ?_
        refine lv_icmp_ge (tgt := 74) hx hb dX0_endsSteppingDown_36 (by decide) (fun c_36 => ?_) (fun c_36 => ?_)
        · refine lv_iconst (v := 0) hx hb dX0_endsSteppingDown_74 (by decide) ?_
          exact W.zret (v := 0) (ty := .boolean) hx hb hr (rfl) (fun t9 ht9 hW9 => ⟨⟨0, y, rfl, by rw [← hv, show k.toNatClampNeg - i = 0 by have h := (le_cl (by have := cl_lt k; omega)).mp c_36; omega]; exact ⟨rfl, rfl⟩, by rw [ht9]; exact hP, hD⟩, hS.F ht9⟩) hS.2.2 dX0_endsSteppingDown_75
        · refine lv_aload_n hx hb dX0_endsSteppingDown_39 rfl (lv_at hl 2 rfl) ?_
          refine lv_aload_n hx hb dX0_endsSteppingDown_40 rfl (lv_at hl 1 rfl) ?_
          refine va_get (D := D) (ci := 0) (v := .int fc) (C := RX0) (T := TX0) (N := 7) hx hb hts hiX0 hown hK hP 0 rfl rfl 0 (by decide) (hts (.fieldLink RX0 9 "LedgeLeaps$Flight" "column" "I") (List.mem_of_getElem? (i := 8) rfl)) (fun _ h9 => h9) rfl dX0_endsSteppingDown_41 ?_
          refine lv_aload_n hx hb dX0_endsSteppingDown_44 rfl (lv_at hl 1 rfl) ?_
          refine va_get (D := D) (ci := 0) (v := .int y) (C := RX0) (T := TX0) (N := 7) hx hb hts hiX0 hown hK hP 0 rfl rfl 1 (by decide) (hts (.fieldLink RX0 15 "LedgeLeaps$Flight" "row" "I") (List.mem_of_getElem? (i := 9) rfl)) (fun _ h9 => h9) rfl dX0_endsSteppingDown_45 ?_
          refine lv_iconst (v := 1) hx hb dX0_endsSteppingDown_48 (by decide) ?_
          refine lv_isub hx hb dX0_endsSteppingDown_49 ?_
          refine cV_i CF hK hN hA hS (cut_of 4 [1, 2, 0, 3] hP hD rfl rfl rfl) (m_isBlock l D cI cZ cW cJ A (oX0 f fc y ft fo (bI fb) fs fi :: aI cI ws 3 wse :: X) w wb ws wc wr wl ww wf wbl fc (y - 1)) (cwV 2 hts gX0_endsSteppingDown_X7_isBlock rfl rfl rfl (by decide +kernel) ⟨Nat.le_of_ble_eq_true rfl, Nat.le_of_ble_eq_true rfl⟩) (As := [.int fc, .int (y - 1)]) (rest := []) (ci := 7) (q0 := 0) rfl rfl rfl hl.1 rfl (Nat.le_of_ble_eq_true rfl) dX0_endsSteppingDown_50 ⟨Nat.le_of_ble_eq_true rfl, Nat.le_of_ble_eq_true rfl⟩ (fun r_50 _ H locs hq hP hD hS => ?_)
          have hq : r_50 = bI (blkX wbl fc (y - 1)) := hq
          subst hq
          have hP : va_P D vwCl (oX0 f fc y ft fo (bI fb) fs fi :: oX7 w wb ws wc wr wl ww wf :: aI cI wb 10 wbl :: aI cI ws 3 wse :: X) H := pm_P hP 4 [2, 0, 1, 3] rfl
          have hD : va_D A (oX0 f fc y ft fo (bI fb) fs fi :: oX7 w wb ws wc wr wl ww wf :: aI cI wb 10 wbl :: aI cI ws 3 wse :: X) := pm_D hD 4 [2, 0, 1, 3] rfl rfl rfl
          refine lv_if_eq (tgt := 58) hx hb dX0_endsSteppingDown_53 (by decide) (fun c_53 => ?_) (fun c_53 => ?_)
          · refine lv_aload_n hx hb dX0_endsSteppingDown_58 rfl (lv_at hl 1 rfl) ?_
            refine lv_dup hx hb dX0_endsSteppingDown_59 rfl ?_
            refine va_get (D := D) (ci := 0) (v := .int y) (C := RX0) (T := TX0) (N := 7) hx hb hts hiX0 hown hK hP 0 rfl rfl 1 (by decide) (hts (.fieldLink RX0 15 "LedgeLeaps$Flight" "row" "I") (List.mem_of_getElem? (i := 9) rfl)) (fun _ h9 => h9) rfl dX0_endsSteppingDown_60 ?_
            refine lv_iconst (v := 1) hx hb dX0_endsSteppingDown_63 (by decide) ?_
            refine lv_isub hx hb dX0_endsSteppingDown_64 ?_
            refine va_put (D := D) (ci := 0) (v := .int (y - 1)) (ty := .int) (C := RX0) (T := TX0) (N := 7) hx hb hts hiX0 tyX0 tyX0_ok nmX0 hown hK hP hD hS 0 rfl rfl 1 (by decide) (hts (.fieldLink RX0 15 "LedgeLeaps$Flight" "row" "I") (List.mem_of_getElem? (i := 9) rfl)) (fun _ h9 => h9) rfl (by decide +kernel) rfl rfl (Nat.le_of_ble_eq_true rfl) dX0_endsSteppingDown_65 (fun H locs hP hD hS => ?_)
            have hP : va_P D vwCl (oX0 f fc (y - 1) ft fo (bI fb) fs fi :: oX7 w wb ws wc wr wl ww wf :: aI cI wb 10 wbl :: aI cI ws 3 wse :: X) H := hP
            have hD : va_D A (oX0 f fc (y - 1) ft fo (bI fb) fs fi :: oX7 w wb ws wc wr wl ww wf :: aI cI wb 10 wbl :: aI cI ws 3 wse :: X) := hD
            refine lv_iinc (v := (nI (i + 1))) (lv' := [(3, .int (nI (i + 1))), (0, .ref f), (1, .ref w), (2, .int k)]) hx hb dX0_endsSteppingDown_68 hl (k := 0) rfl (nI_1 i) (by decide) rfl (fun ls hl => ?_)
            refine lv_goto (tgt := 34) hx hb dX0_endsSteppingDown_71 (by decide) ?_
            exact ih_34 k (i + 1) (y - 1) (by have h := le_cl' hi c_36; omega) (le_cl' hi c_36) (by rw [← hv, show k.toNatClampNeg - i = (k.toNatClampNeg - (i + 1)) + 1 by have h := le_cl' hi c_36; omega, downF, if_neg (by simp [bf_c c_53])]) _ _ (hP) (hD) hS _ (lv_sub hl [0, 1, 2, 3] rfl)
          · refine lv_iconst (v := 1) hx hb dX0_endsSteppingDown_56 (by decide) ?_
            exact W.zret (v := 1) (ty := .boolean) hx hb hr (rfl) (fun t9 ht9 hW9 => ⟨⟨1, y, rfl, by rw [← hv, show k.toNatClampNeg - i = (k.toNatClampNeg - (i + 1)) + 1 by have h := le_cl' hi c_36; omega, downF, if_pos (bt_c c_53)]; exact ⟨rfl, rfl⟩, by rw [ht9]; exact hP, hD⟩, hS.F ht9⟩) hS.2.2 dX0_endsSteppingDown_57
    exact loop_34 _ (-fi) 0 fr (Nat.lt_succ_self _) (Nat.zero_le _) (by rw [stepsF, if_neg (by simp [bf_c c_4]), Nat.sub_zero]) _ _ hP hD hS _ (lv_sub hl [0, 2, 3, 1] rfl)
  · refine lv_aload_n hx hb dX0_endsSteppingDown_7 rfl (lv_at hl 0 rfl) ?_
    refine va_get (D := D) (ci := 0) (v := .int fi) (C := RX0) (T := TX0) (N := 7) hx hb hts hiX0 hown hK hP 0 rfl rfl 6 (by decide) (hts (.fieldLink RX0 38 "LedgeLeaps$Flight" "rise" "I") (List.mem_of_getElem? (i := 2) rfl)) (fun _ h9 => h9) rfl dX0_endsSteppingDown_8 ?_
    refine lv_ineg hx hb dX0_endsSteppingDown_11 ?_
    refine lv_aload_n hx hb dX0_endsSteppingDown_12 rfl (lv_at hl 1 rfl) ?_
    refine va_get (D := D) (ci := 7) (v := .ref ws) (C := RX7) (T := TX7) (N := 7) hx hb hts hiX7 hown hK hP 1 rfl rfl 1 (by decide) (hts (.fieldLink RX0 28 "LedgeLeaps$World" "settings" "[I") (List.mem_of_getElem? (i := 3) rfl)) (fun _ h9 => h9) rfl dX0_endsSteppingDown_13 ?_
    refine lv_iconst (v := 2) hx hb dX0_endsSteppingDown_16 (by decide) ?_
    refine cSN_i CF hK hN hA hS (cut_of 4 [3, 0, 1, 2] hP hD rfl rfl rfl) (m_at l D cI cZ cW cJ A (oX0 f fc fr ft fo (bI fb) fs fi :: oX7 w wb ws wc wr wl ww wf :: aI cI wb 10 wbl :: X) ws 3 wse 2 (by decide)) ⟨va_cnB 2 hts gX0_endsSteppingDown_X8_at_n34 rfl rfl rfl (hN (RX0, 34, yX8_at) (List.mem_of_getElem? (i := 6) rfl)) (hts (.initialized RX8) (List.mem_of_getElem? (i := 11) rfl)) (by decide +kernel) ⟨Nat.le_of_ble_eq_true rfl, Nat.le_of_ble_eq_true rfl⟩, (hts (.static yX8_at) (List.mem_of_getElem? (i := 10) rfl)), trivial⟩ (As := [.ref ws, .int 2]) (rest := [.int (-fi)]) rfl hl.1 rfl (Nat.le_of_ble_eq_true rfl) dX0_endsSteppingDown_17 ⟨Nat.le_of_ble_eq_true rfl, Nat.le_of_ble_eq_true rfl⟩ (fun r_17 _ H locs hq hP hD hS => ?_)
    have hq : r_17 = atX 3 wse 2 := hq
    subst hq
    have hP : va_P D vwCl (oX0 f fc fr ft fo (bI fb) fs fi :: oX7 w wb ws wc wr wl ww wf :: aI cI wb 10 wbl :: aI cI ws 3 wse :: X) H := pm_P hP 4 [1, 2, 3, 0] rfl
    have hD : va_D A (oX0 f fc fr ft fo (bI fb) fs fi :: oX7 w wb ws wc wr wl ww wf :: aI cI wb 10 wbl :: aI cI ws 3 wse :: X) := pm_D hD 4 [1, 2, 3, 0] rfl rfl rfl
    refine top_i (y := (wse 2)) (at32 wse) ?_
    refine va_mmin hx hb (hml.trans hl.1.symm) hown (hts (.methodLink RX0 66 Lib.Math.min.name) (List.mem_of_getElem? (i := 4) rfl)) (hts (.static Lib.Math.min.name) (List.mem_of_getElem? (i := 5) rfl)) (hts (.initialized "java/lang/Math") (List.mem_of_getElem? (i := 6) rfl)) (hts (.code Lib.Math.min.name Lib.Math.min.code 2 (some .int)) (List.mem_of_getElem? (i := 7) rfl)) (Nat.le_of_ble_eq_true rfl) (Nat.le_of_ble_eq_true rfl) (Nat.zero_le _) (Nat.zero_le _) dX0_endsSteppingDown_20 ?_
    refine lv_goto (tgt := 31) hx hb dX0_endsSteppingDown_23 (by decide) ?_
    refine lv_istore_n (lv' := [(2, .int (if (wse 2) < (-fi) then (wse 2) else (-fi))), (0, .ref f), (1, .ref w)]) hx hb dX0_endsSteppingDown_31 rfl hl (by decide) rfl (fun ls hl => ?_)
    refine lv_iconst (v := 0) hx hb dX0_endsSteppingDown_32 (by decide) ?_
    refine lv_istore_n (lv' := [(3, .int 0), (2, .int (if (wse 2) < (-fi) then (wse 2) else (-fi))), (0, .ref f), (1, .ref w)]) hx hb dX0_endsSteppingDown_33 rfl hl (by decide) rfl (fun ls hl => ?_)
    have loop_34 : ∀ (nfu : Nat) (k : Int32) (i : Nat) (y : Int32) (hn_34 : k.toNatClampNeg - i < nfu) (hi : i ≤ k.toNatClampNeg) (hv : downF (blkX wbl) fc (k.toNatClampNeg - i) y = (downF (blkX wbl) fc (stepsF fb fi (wse 2)) fr)) (H : Heap) (locs : List Loc) (hP : va_P D vwCl (oX0 f fc y ft fo (bI fb) fs fi :: oX7 w wb ws wc wr wl ww wf :: aI cI wb 10 wbl :: aI cI ws 3 wse :: X) H) (hD : va_D A (oX0 f fc y ft fo (bI fb) fs fi :: oX7 w wb ws wc wr wl ww wf :: aI cI wb 10 wbl :: aI cI ws 3 wse :: X)) (hS : va_S A s.heap H locs) (ls : Array Slot) (hl : lv_has ls 4 [(3, .int (nI i)), (0, .ref f), (1, .ref w), (2, .int k)]), W p l e ({ frames := 1, cells := 0, slots := 0, locals := 22 } : Room) s m (([.ref f, .ref w] : List Value).toArray) below meth c H locs 0 0 (MQ below (va_Qi (fun (r : Int32) (u : Int32) => r = bI (downF (blkX wbl) fc (stepsF fb fi (wse 2)) fr).2 ∧ u = (downF (blkX wbl) fc (stepsF fb fi (wse 2)) fr).1) (fun (u : Int32) t => wq D A (oX0 f fc u ft fo (bI fb) fs fi :: oX7 w wb ws wc wr wl ww wf :: aI cI wb 10 wbl :: aI cI ws 3 wse :: X) t) A) (([.ref f, .ref w] : List Value).toArray) s 0 0 A) (F0 m 34 ls []) := by
      intro nfu
      induction nfu with
      | zero => intro k i y hn_34; exact absurd hn_34 (Nat.not_lt_zero _)
      | succ nfu ih_34 =>
        intro k i y hn_34 hi hv H locs hP hD hS ls hl
        refine lv_iload_n hx hb dX0_endsSteppingDown_34 rfl (lv_at hl 0 rfl) ?_
        refine lv_iload_n hx hb dX0_endsSteppingDown_35 rfl (lv_at hl 3 rfl) ?_
        refine lv_icmp_ge (tgt := 74) hx hb dX0_endsSteppingDown_36 (by decide) (fun c_36 => ?_) (fun c_36 => ?_)
        · refine lv_iconst (v := 0) hx hb dX0_endsSteppingDown_74 (by decide) ?_
          exact W.zret (v := 0) (ty := .boolean) hx hb hr (rfl) (fun t9 ht9 hW9 => ⟨⟨0, y, rfl, by rw [← hv, show k.toNatClampNeg - i = 0 by have h := (le_cl (by have := cl_lt k; omega)).mp c_36; omega]; exact ⟨rfl, rfl⟩, by rw [ht9]; exact hP, hD⟩, hS.F ht9⟩) hS.2.2 dX0_endsSteppingDown_75
        · refine lv_aload_n hx hb dX0_endsSteppingDown_39 rfl (lv_at hl 2 rfl) ?_
          refine lv_aload_n hx hb dX0_endsSteppingDown_40 rfl (lv_at hl 1 rfl) ?_
          refine va_get (D := D) (ci := 0) (v := .int fc) (C := RX0) (T := TX0) (N := 7) hx hb hts hiX0 hown hK hP 0 rfl rfl 0 (by decide) (hts (.fieldLink RX0 9 "LedgeLeaps$Flight" "column" "I") (List.mem_of_getElem? (i := 8) rfl)) (fun _ h9 => h9) rfl dX0_endsSteppingDown_41 ?_
          refine lv_aload_n hx hb dX0_endsSteppingDown_44 rfl (lv_at hl 1 rfl) ?_
          refine va_get (D := D) (ci := 0) (v := .int y) (C := RX0) (T := TX0) (N := 7) hx hb hts hiX0 hown hK hP 0 rfl rfl 1 (by decide) (hts (.fieldLink RX0 15 "LedgeLeaps$Flight" "row" "I") (List.mem_of_getElem? (i := 9) rfl)) (fun _ h9 => h9) rfl dX0_endsSteppingDown_45 ?_
          refine lv_iconst (v := 1) hx hb dX0_endsSteppingDown_48 (by decide) ?_
          refine lv_isub hx hb dX0_endsSteppingDown_49 ?_
          refine cV_i CF hK hN hA hS (cut_of 4 [1, 2, 0, 3] hP hD rfl rfl rfl) (m_isBlock l D cI cZ cW cJ A (oX0 f fc y ft fo (bI fb) fs fi :: aI cI ws 3 wse :: X) w wb ws wc wr wl ww wf wbl fc (y - 1)) (cwV 2 hts gX0_endsSteppingDown_X7_isBlock rfl rfl rfl (by decide +kernel) ⟨Nat.le_of_ble_eq_true rfl, Nat.le_of_ble_eq_true rfl⟩) (As := [.int fc, .int (y - 1)]) (rest := []) (ci := 7) (q0 := 0) rfl rfl rfl hl.1 rfl (Nat.le_of_ble_eq_true rfl) dX0_endsSteppingDown_50 ⟨Nat.le_of_ble_eq_true rfl, Nat.le_of_ble_eq_true rfl⟩ (fun r_50 _ H locs hq hP hD hS => ?_)
          have hq : r_50 = bI (blkX wbl fc (y - 1)) := hq
          subst hq
          have hP : va_P D vwCl (oX0 f fc y ft fo (bI fb) fs fi :: oX7 w wb ws wc wr wl ww wf :: aI cI wb 10 wbl :: aI cI ws 3 wse :: X) H := pm_P hP 4 [2, 0, 1, 3] rfl
          have hD : va_D A (oX0 f fc y ft fo (bI fb) fs fi :: oX7 w wb ws wc wr wl ww wf :: aI cI wb 10 wbl :: aI cI ws 3 wse :: X) := pm_D hD 4 [2, 0, 1, 3] rfl rfl rfl
          refine lv_if_eq (tgt := 58) hx hb dX0_endsSteppingDown_53 (by decide) (fun c_53 => ?_) (fun c_53 => ?_)
          · refine lv_aload_n hx hb dX0_endsSteppingDown_58 rfl (lv_at hl 1 rfl) ?_
            refine lv_dup hx hb dX0_endsSteppingDown_59 rfl ?_
            refine va_get (D := D) (ci := 0) (v := .int y) (C := RX0) (T := TX0) (N := 7) hx hb hts hiX0 hown hK hP 0 rfl rfl 1 (by decide) (hts (.fieldLink RX0 15 "LedgeLeaps$Flight" "row" "I") (List.mem_of_getElem? (i := 9) rfl)) (fun _ h9 => h9) rfl dX0_endsSteppingDown_60 ?_
            refine lv_iconst (v := 1) hx hb dX0_endsSteppingDown_63 (by decide) ?_
            refine lv_isub hx hb dX0_endsSteppingDown_64 ?_
            refine va_put (D := D) (ci := 0) (v := .int (y - 1)) (ty := .int) (C := RX0) (T := TX0) (N := 7) hx hb hts hiX0 tyX0 tyX0_ok nmX0 hown hK hP hD hS 0 rfl rfl 1 (by decide) (hts (.fieldLink RX0 15 "LedgeLeaps$Flight" "row" "I") (List.mem_of_getElem? (i := 9) rfl)) (fun _ h9 => h9) rfl (by decide +kernel) rfl rfl (Nat.le_of_ble_eq_true rfl) dX0_endsSteppingDown_65 (fun H locs hP hD hS => ?_)
            have hP : va_P D vwCl (oX0 f fc (y - 1) ft fo (bI fb) fs fi :: oX7 w wb ws wc wr wl ww wf :: aI cI wb 10 wbl :: aI cI ws 3 wse :: X) H := hP
            have hD : va_D A (oX0 f fc (y - 1) ft fo (bI fb) fs fi :: oX7 w wb ws wc wr wl ww wf :: aI cI wb 10 wbl :: aI cI ws 3 wse :: X) := hD
            refine lv_iinc (v := (nI (i + 1))) (lv' := [(3, .int (nI (i + 1))), (0, .ref f), (1, .ref w), (2, .int k)]) hx hb dX0_endsSteppingDown_68 hl (k := 0) rfl (nI_1 i) (by decide) rfl (fun ls hl => ?_)
            refine lv_goto (tgt := 34) hx hb dX0_endsSteppingDown_71 (by decide) ?_
            exact ih_34 k (i + 1) (y - 1) (by have h := le_cl' hi c_36; omega) (le_cl' hi c_36) (by rw [← hv, show k.toNatClampNeg - i = (k.toNatClampNeg - (i + 1)) + 1 by have h := le_cl' hi c_36; omega, downF, if_neg (by simp [bf_c c_53])]) _ _ (hP) (hD) hS _ (lv_sub hl [0, 1, 2, 3] rfl)
          · refine lv_iconst (v := 1) hx hb dX0_endsSteppingDown_56 (by decide) ?_
            exact W.zret (v := 1) (ty := .boolean) hx hb hr (rfl) (fun t9 ht9 hW9 => ⟨⟨1, y, rfl, by rw [← hv, show k.toNatClampNeg - i = (k.toNatClampNeg - (i + 1)) + 1 by have h := le_cl' hi c_36; omega, downF, if_pos (bt_c c_53)]; exact ⟨rfl, rfl⟩, by rw [ht9]; exact hP, hD⟩, hS.F ht9⟩) hS.2.2 dX0_endsSteppingDown_57
    exact loop_34 _ (if (wse 2) < (-fi) then (wse 2) else (-fi)) 0 fr (Nat.lt_succ_self _) (Nat.zero_le _) (by rw [stepsF, if_pos (bt_c c_4), Nat.sub_zero, min2]) _ _ hP hD hS _ (lv_sub hl [0, 2, 3, 1] rfl)
set_option maxHeartbeats 4000000 in
set_option maxRecDepth 100000 in
theorem m_fly (l : Launch) (D : va_G) (cI cZ cW cJ : ClassId) (A : Nat → Prop) (X : va_W) (f : Nat) (fc fr ft fo fm fs fi : Int32) (w wb ws : Nat) (wc wr wl ww wf : Int32) (wbl wse : Nat → Int32) (xc xr xd xu : Int32) : Met l yX0_fly wsX0_fly ({ frames := 2, cells := 0, slots := 0, locals := 45 }) (va_Pc [.ref f, .ref w, .int xc, .int xr, .int xd, .int xu] (wd D (tyL cI cZ cW cJ) A (oX0 f fc fr ft fo fm fs fi :: oX7 w wb ws wc wr wl ww wf :: aI cI wb 10 wbl :: aI cI ws 3 wse :: X))) (va_Qv (fun (u : FS) => u = flyF (blkX wbl) xd (wse 1) (wse 2) 100 xc xr 0 xr false (xu + 1) (wse 0)) (fun (u : FS) t => wq D A (oX0 f u.1 u.2.1 u.2.2.1 u.2.2.2.1 (bI u.2.2.2.2.1) u.2.2.2.2.2.1 u.2.2.2.2.2.2 :: oX7 w wb ws wc wr wl ww wf :: aI cI wb 10 wbl :: aI cI ws 3 wse :: X) t) A) 0 0 A := by
  refine Met.ofW (cc := cX0_fly) (maxL := 7) (ret := none) (by decide) rfl ?_
  intro p e s m args below meth c s₁ B hml hv
  obtain ⟨rfl, hsz9, hP, hK, hD, hN⟩ := hv
  have hx := B.exec
  have hb := B.bytes
  have hr := B.returns
  have hts := atoms_spec (ws := wsX0_fly) B.pre
  have hown : s.vm.findClass RX0 = some m.cls := findClass_of_methodNamed B.named
  have hlocks := B.notSynchronized
  have CF : CallFix p m c cX0_fly 7 s _ wsX0_fly RX0 := ⟨hx, hb, hml, hown, hts⟩
  have hA : ∀ q : Nat, s.heap.size ≤ q → A q := hsz9
  have hS : va_S A s.heap s.heap [] := va_S.rf
  have hiX0 : ∀ w ∈ u_ws RX0 TX0 7, w ∈ wsX0_fly := fun _ h => List.mem_cons_of_mem _ (List.mem_append_left _ (List.mem_append_right _ (h)))
  have hiX7 : ∀ w ∈ u_ws RX7 TX7 7, w ∈ wsX0_fly := fun _ h => List.mem_cons_of_mem _ (List.mem_append_right _ (h))
  have hl := lv_entry ([.ref f, .ref w, .int xc, .int xr, .int xd, .int xu]) (n := 7) (Nat.le_of_ble_eq_true rfl)
  rw [lg_entry_eq]
  generalize (lg_sl ([.ref f, .ref w, .int xc, .int xr, .int xd, .int xu]) ++ List.replicate (7 - (lg_sl ([.ref f, .ref w, .int xc, .int xr, .int xd, .int xu])).length) Slot.unset).toArray = ls at hl ⊢
  have hl : lv_has ls 7 [(0, .ref f), (1, .ref w), (2, .int xc), (3, .int xr), (4, .int xd), (5, .int xu)] := hl
  show W p l e ({ frames := 2, cells := 0, slots := 0, locals := 45 } : Room) s m (([.ref f, .ref w, .int xc, .int xr, .int xd, .int xu] : List Value).toArray) below meth c s.heap [] 0 0 (MQ below (va_Qv (fun (u : FS) => u = flyF (blkX wbl) xd (wse 1) (wse 2) 100 xc xr 0 xr false (xu + 1) (wse 0)) (fun (u : FS) t => wq D A (oX0 f u.1 u.2.1 u.2.2.1 u.2.2.2.1 (bI u.2.2.2.2.1) u.2.2.2.2.2.1 u.2.2.2.2.2.2 :: oX7 w wb ws wc wr wl ww wf :: aI cI wb 10 wbl :: aI cI ws 3 wse :: X) t) A) (([.ref f, .ref w, .int xc, .int xr, .int xd, .int xu] : List Value).toArray) s 0 0 A) (F0 m 0 ls [])
  refine lv_aload_n hx hb dX0_fly_0 rfl (lv_at hl 0 rfl) ?_
  refine lv_iload_n hx hb dX0_fly_1 rfl (lv_at hl 2 rfl) ?_
  refine va_put (D := D) (ci := 0) (v := .int xc) (ty := .int) (C := RX0) (T := TX0) (N := 7) hx hb hts hiX0 tyX0 tyX0_ok nmX0 hown hK hP hD hS 0 rfl rfl 0 (by decide) (hts (.fieldLink RX0 9 "LedgeLeaps$Flight" "column" "I") (List.mem_of_getElem? (i := 1) rfl)) (fun _ h9 => h9) rfl (by decide +kernel) rfl rfl (Nat.le_of_ble_eq_true rfl) dX0_fly_2 (fun H locs hP hD hS => ?_)
  have hP : va_P D vwCl (oX0 f xc fr ft fo fm fs fi :: oX7 w wb ws wc wr wl ww wf :: aI cI wb 10 wbl :: aI cI ws 3 wse :: X) H := hP
  have hD : va_D A (oX0 f xc fr ft fo fm fs fi :: oX7 w wb ws wc wr wl ww wf :: aI cI wb 10 wbl :: aI cI ws 3 wse :: X) := hD
  refine lv_aload_n hx hb dX0_fly_5 rfl (lv_at hl 0 rfl) ?_
  refine lv_iload_n hx hb dX0_fly_6 rfl (lv_at hl 3 rfl) ?_
  refine va_put (D := D) (ci := 0) (v := .int xr) (ty := .int) (C := RX0) (T := TX0) (N := 7) hx hb hts hiX0 tyX0 tyX0_ok nmX0 hown hK hP hD hS 0 rfl rfl 1 (by decide) (hts (.fieldLink RX0 15 "LedgeLeaps$Flight" "row" "I") (List.mem_of_getElem? (i := 2) rfl)) (fun _ h9 => h9) rfl (by decide +kernel) rfl rfl (Nat.le_of_ble_eq_true rfl) dX0_fly_7 (fun H locs hP hD hS => ?_)
  have hP : va_P D vwCl (oX0 f xc xr ft fo fm fs fi :: oX7 w wb ws wc wr wl ww wf :: aI cI wb 10 wbl :: aI cI ws 3 wse :: X) H := hP
  have hD : va_D A (oX0 f xc xr ft fo fm fs fi :: oX7 w wb ws wc wr wl ww wf :: aI cI wb 10 wbl :: aI cI ws 3 wse :: X) := hD
  refine lv_aload_n hx hb dX0_fly_10 rfl (lv_at hl 0 rfl) ?_
  refine lv_iload_n hx hb dX0_fly_11 rfl (lv_at hl 3 rfl) ?_
  refine va_put (D := D) (ci := 0) (v := .int xr) (ty := .int) (C := RX0) (T := TX0) (N := 7) hx hb hts hiX0 tyX0 tyX0_ok nmX0 hown hK hP hD hS 0 rfl rfl 3 (by decide) (hts (.fieldLink RX0 18 "LedgeLeaps$Flight" "topRow" "I") (List.mem_of_getElem? (i := 3) rfl)) (fun _ h9 => h9) rfl (by decide +kernel) rfl rfl (Nat.le_of_ble_eq_true rfl) dX0_fly_12 (fun H locs hP hD hS => ?_)
  have hP : va_P D vwCl (oX0 f xc xr ft xr fm fs fi :: oX7 w wb ws wc wr wl ww wf :: aI cI wb 10 wbl :: aI cI ws 3 wse :: X) H := hP
  have hD : va_D A (oX0 f xc xr ft xr fm fs fi :: oX7 w wb ws wc wr wl ww wf :: aI cI wb 10 wbl :: aI cI ws 3 wse :: X) := hD
  refine lv_aload_n hx hb dX0_fly_15 rfl (lv_at hl 0 rfl) ?_
  refine lv_iconst (v := 0) hx hb dX0_fly_16 (by decide) ?_
  refine va_put (D := D) (ci := 0) (v := .int 0) (ty := .boolean) (C := RX0) (T := TX0) (N := 7) hx hb hts hiX0 tyX0 tyX0_ok nmX0 hown hK hP hD hS 0 rfl rfl 4 (by decide) (hts (.fieldLink RX0 21 "LedgeLeaps$Flight" "wallIsMet" "Z") (List.mem_of_getElem? (i := 4) rfl)) (fun _ h9 => h9) rfl (by decide +kernel) rfl rfl (Nat.le_of_ble_eq_true rfl) dX0_fly_17 (fun H locs hP hD hS => ?_)
  have hP : va_P D vwCl (oX0 f xc xr ft xr 0 fs fi :: oX7 w wb ws wc wr wl ww wf :: aI cI wb 10 wbl :: aI cI ws 3 wse :: X) H := hP
  have hD : va_D A (oX0 f xc xr ft xr 0 fs fi :: oX7 w wb ws wc wr wl ww wf :: aI cI wb 10 wbl :: aI cI ws 3 wse :: X) := hD
  refine lv_aload_n hx hb dX0_fly_20 rfl (lv_at hl 0 rfl) ?_
  refine lv_iload hx hb dX0_fly_21 (lv_at hl 5 rfl) ?_
  refine lv_iconst (v := 1) hx hb dX0_fly_23 (by decide) ?_
  refine lv_iadd hx hb dX0_fly_24 ?_
  refine va_put (D := D) (ci := 0) (v := .int (xu + 1)) (ty := .int) (C := RX0) (T := TX0) (N := 7) hx hb hts hiX0 tyX0 tyX0_ok nmX0 hown hK hP hD hS 0 rfl rfl 5 (by decide) (hts (.fieldLink RX0 25 "LedgeLeaps$Flight" "speed" "I") (List.mem_of_getElem? (i := 5) rfl)) (fun _ h9 => h9) rfl (by decide +kernel) rfl rfl (Nat.le_of_ble_eq_true rfl) dX0_fly_25 (fun H locs hP hD hS => ?_)
  have hP : va_P D vwCl (oX0 f xc xr ft xr 0 (xu + 1) fi :: oX7 w wb ws wc wr wl ww wf :: aI cI wb 10 wbl :: aI cI ws 3 wse :: X) H := hP
  have hD : va_D A (oX0 f xc xr ft xr 0 (xu + 1) fi :: oX7 w wb ws wc wr wl ww wf :: aI cI wb 10 wbl :: aI cI ws 3 wse :: X) := hD
  refine lv_aload_n hx hb dX0_fly_28 rfl (lv_at hl 0 rfl) ?_
  refine lv_aload_n hx hb dX0_fly_29 rfl (lv_at hl 1 rfl) ?_
  refine va_get (D := D) (ci := 7) (v := .ref ws) (C := RX7) (T := TX7) (N := 7) hx hb hts hiX7 hown hK hP 1 rfl rfl 1 (by decide) (hts (.fieldLink RX0 28 "LedgeLeaps$World" "settings" "[I") (List.mem_of_getElem? (i := 6) rfl)) (fun _ h9 => h9) rfl dX0_fly_30 ?_
  refine lv_iconst (v := 0) hx hb dX0_fly_33 (by decide) ?_
  refine cSN_i CF hK hN hA hS (cut_of 4 [3, 0, 1, 2] hP hD rfl rfl rfl) (m_at l D cI cZ cW cJ A (oX0 f xc xr ft xr 0 (xu + 1) fi :: oX7 w wb ws wc wr wl ww wf :: aI cI wb 10 wbl :: X) ws 3 wse 0 (by decide)) ⟨va_cnB 2 hts gX0_fly_X8_at_n34 rfl rfl rfl (hN (RX0, 34, yX8_at) (List.mem_of_getElem? (i := 6) rfl)) (hts (.initialized RX8) (List.mem_of_getElem? (i := 14) rfl)) (by decide +kernel) ⟨Nat.le_of_ble_eq_true rfl, Nat.le_of_ble_eq_true rfl⟩, (hts (.static yX8_at) (List.mem_of_getElem? (i := 13) rfl)), trivial⟩ (As := [.ref ws, .int 0]) (rest := [.ref f]) rfl hl.1 rfl (Nat.le_of_ble_eq_true rfl) dX0_fly_34 ⟨Nat.le_of_ble_eq_true rfl, Nat.le_of_ble_eq_true rfl⟩ (fun r_34 _ H locs hq hP hD hS => ?_)
  have hq : r_34 = atX 3 wse 0 := hq
  subst hq
  have hP : va_P D vwCl (oX0 f xc xr ft xr 0 (xu + 1) fi :: oX7 w wb ws wc wr wl ww wf :: aI cI wb 10 wbl :: aI cI ws 3 wse :: X) H := pm_P hP 4 [1, 2, 3, 0] rfl
  have hD : va_D A (oX0 f xc xr ft xr 0 (xu + 1) fi :: oX7 w wb ws wc wr wl ww wf :: aI cI wb 10 wbl :: aI cI ws 3 wse :: X) := pm_D hD 4 [1, 2, 3, 0] rfl rfl rfl
  refine top_i (y := (wse 0)) (at30 wse) ?_
  refine va_put (D := D) (ci := 0) (v := .int (wse 0)) (ty := .int) (C := RX0) (T := TX0) (N := 7) hx hb hts hiX0 tyX0 tyX0_ok nmX0 hown hK hP hD hS 0 rfl rfl 6 (by decide) (hts (.fieldLink RX0 38 "LedgeLeaps$Flight" "rise" "I") (List.mem_of_getElem? (i := 7) rfl)) (fun _ h9 => h9) rfl (by decide +kernel) rfl rfl (Nat.le_of_ble_eq_true rfl) dX0_fly_37 (fun H locs hP hD hS => ?_)
  have hP : va_P D vwCl (oX0 f xc xr ft xr 0 (xu + 1) (wse 0) :: oX7 w wb ws wc wr wl ww wf :: aI cI wb 10 wbl :: aI cI ws 3 wse :: X) H := hP
  have hD : va_D A (oX0 f xc xr ft xr 0 (xu + 1) (wse 0) :: oX7 w wb ws wc wr wl ww wf :: aI cI wb 10 wbl :: aI cI ws 3 wse :: X) := hD
  refine lv_aload_n hx hb dX0_fly_40 rfl (lv_at hl 0 rfl) ?_
  refine lv_iconst (v := 0) hx hb dX0_fly_41 (by decide) ?_
  refine va_put (D := D) (ci := 0) (v := .int 0) (ty := .int) (C := RX0) (T := TX0) (N := 7) hx hb hts hiX0 tyX0 tyX0_ok nmX0 hown hK hP hD hS 0 rfl rfl 2 (by decide) (hts (.fieldLink RX0 41 "LedgeLeaps$Flight" "ticks" "I") (List.mem_of_getElem? (i := 8) rfl)) (fun _ h9 => h9) rfl (by decide +kernel) rfl rfl (Nat.le_of_ble_eq_true rfl) dX0_fly_42 (fun H locs hP hD hS => ?_)
  have hP : va_P D vwCl (oX0 f xc xr 0 xr 0 (xu + 1) (wse 0) :: oX7 w wb ws wc wr wl ww wf :: aI cI wb 10 wbl :: aI cI ws 3 wse :: X) H := hP
  have hD : va_D A (oX0 f xc xr 0 xr 0 (xu + 1) (wse 0) :: oX7 w wb ws wc wr wl ww wf :: aI cI wb 10 wbl :: aI cI ws 3 wse :: X) := hD
  refine lv_iconst (v := 0) hx hb dX0_fly_45 (by decide) ?_
  refine lv_istore (lv' := [(6, .int 0), (0, .ref f), (1, .ref w), (2, .int xc), (3, .int xr), (4, .int xd), (5, .int xu)]) hx hb dX0_fly_46 hl (by decide) rfl (fun ls hl => ?_)
  have loop_48 : ∀ (nfu : Nat) (t : Nat) (vc vr vo : Int32) (vm : Bool) (vs vi : Int32) (ve : Bool) (hn_48 : 101 - t < nfu) (ht : t ≤ 100) (hv : (if ve = true then (vc, vr, nI t, vo, vm, vs, vi) else flyF (blkX wbl) xd (wse 1) (wse 2) (100 - t) vc vr (nI t) vo vm vs vi) = flyF (blkX wbl) xd (wse 1) (wse 2) 100 xc xr 0 xr false (xu + 1) (wse 0)) (H : Heap) (locs : List Loc) (hP : va_P D vwCl (oX0 f vc vr (nI t) vo (bI vm) vs vi :: oX7 w wb ws wc wr wl ww wf :: aI cI wb 10 wbl :: aI cI ws 3 wse :: X) H) (hD : va_D A (oX0 f vc vr (nI t) vo (bI vm) vs vi :: oX7 w wb ws wc wr wl ww wf :: aI cI wb 10 wbl :: aI cI ws 3 wse :: X)) (hS : va_S A s.heap H locs) (ls : Array Slot) (hl : lv_has ls 7 [(6, .int (bI ve)), (0, .ref f), (1, .ref w), (2, .int xc), (3, .int xr), (4, .int xd), (5, .int xu)]), W p l e ({ frames := 2, cells := 0, slots := 0, locals := 45 } : Room) s m (([.ref f, .ref w, .int xc, .int xr, .int xd, .int xu] : List Value).toArray) below meth c H locs 0 0 (MQ below (va_Qv (fun (u : FS) => u = flyF (blkX wbl) xd (wse 1) (wse 2) 100 xc xr 0 xr false (xu + 1) (wse 0)) (fun (u : FS) t => wq D A (oX0 f u.1 u.2.1 u.2.2.1 u.2.2.2.1 (bI u.2.2.2.2.1) u.2.2.2.2.2.1 u.2.2.2.2.2.2 :: oX7 w wb ws wc wr wl ww wf :: aI cI wb 10 wbl :: aI cI ws 3 wse :: X) t) A) (([.ref f, .ref w, .int xc, .int xr, .int xd, .int xu] : List Value).toArray) s 0 0 A) (F0 m 48 ls []) := by
    intro nfu
    induction nfu with
    | zero => intro t vc vr vo vm vs vi ve hn_48; exact absurd hn_48 (Nat.not_lt_zero _)
    | succ nfu ih_48 =>
      intro t vc vr vo vm vs vi ve hn_48 ht hv H locs hP hD hS ls hl
      refine lv_aload_n hx hb dX0_fly_48 rfl (lv_at hl 1 rfl) ?_
      refine va_get (D := D) (ci := 0) (v := .int (nI t)) (C := RX0) (T := TX0) (N := 7) hx hb hts hiX0 hown hK hP 0 rfl rfl 2 (by decide) (hts (.fieldLink RX0 41 "LedgeLeaps$Flight" "ticks" "I") (List.mem_of_getElem? (i := 8) rfl)) (fun _ h9 => h9) rfl dX0_fly_49 ?_
      refine lv_bipush (v := 100) hx hb dX0_fly_52 (by decide) ?_
      refine lv_icmp_ge (tgt := 141) hx hb dX0_fly_54 (by decide) (fun c_54 => ?_) (fun c_54 => ?_)
      · exact W.vret hx hb hr (fun t9 ht9 hW9 => ⟨⟨(vc, vr, nI t, vo, vm, vs, vi), rfl, by rw [← hv, show 100 - t = 0 by have h := le_of_ge (a := 100) (b := t) (by decide) (by omega) c_54; omega]; cases ve <;> rfl, by rw [ht9]; exact hP, hD⟩, hS.F ht9⟩) hS.2.2 dX0_fly_141
      · refine lv_iload hx hb dX0_fly_57 (lv_at hl 0 rfl) ?_
        refine lv_if_ne (tgt := 141) hx hb dX0_fly_59 (by decide) (fun c_59 => ?_) (fun c_59 => ?_)
        · exact W.vret hx hb hr (fun t9 ht9 hW9 => ⟨⟨(vc, vr, nI t, vo, vm, vs, vi), rfl, by rw [← hv, if_pos (bt_c c_59)], by rw [ht9]; exact hP, hD⟩, hS.F ht9⟩) hS.2.2 dX0_fly_141
        · obtain rfl : ve = false := bf_c c_59
          rw [if_neg Bool.false_ne_true] at hv
          have ht2 : t < 100 := lt_of_nge (a := 100) (b := t) (by decide) (by omega) c_54
          refine lv_aload_n hx hb dX0_fly_62 rfl (lv_at hl 1 rfl) ?_
          refine lv_dup hx hb dX0_fly_63 rfl ?_
          refine va_get (D := D) (ci := 0) (v := .int (nI t)) (C := RX0) (T := TX0) (N := 7) hx hb hts hiX0 hown hK hP 0 rfl rfl 2 (by decide) (hts (.fieldLink RX0 41 "LedgeLeaps$Flight" "ticks" "I") (List.mem_of_getElem? (i := 8) rfl)) (fun _ h9 => h9) rfl dX0_fly_64 ?_
          refine lv_iconst (v := 1) hx hb dX0_fly_67 (by decide) ?_
          refine lv_iadd hx hb dX0_fly_68 ?_
          refine top_i (y := (nI (t + 1))) (nI_1 t) ?_
          refine va_put (D := D) (ci := 0) (v := .int (nI (t + 1))) (ty := .int) (C := RX0) (T := TX0) (N := 7) hx hb hts hiX0 tyX0 tyX0_ok nmX0 hown hK hP hD hS 0 rfl rfl 2 (by decide) (hts (.fieldLink RX0 41 "LedgeLeaps$Flight" "ticks" "I") (List.mem_of_getElem? (i := 8) rfl)) (fun _ h9 => h9) rfl (by decide +kernel) rfl rfl (Nat.le_of_ble_eq_true rfl) dX0_fly_69 (fun H locs hP hD hS => ?_)
          have hP : va_P D vwCl (oX0 f vc vr (nI (t + 1)) vo (bI vm) vs vi :: oX7 w wb ws wc wr wl ww wf :: aI cI wb 10 wbl :: aI cI ws 3 wse :: X) H := hP
          have hD : va_D A (oX0 f vc vr (nI (t + 1)) vo (bI vm) vs vi :: oX7 w wb ws wc wr wl ww wf :: aI cI wb 10 wbl :: aI cI ws 3 wse :: X) := hD
          refine lv_aload_n hx hb dX0_fly_72 rfl (lv_at hl 1 rfl) ?_
          refine lv_aload_n hx hb dX0_fly_73 rfl (lv_at hl 2 rfl) ?_
          refine lv_iload hx hb dX0_fly_74 (lv_at hl 5 rfl) ?_
          refine cV_v CF hK hN hA hS (cut_of 4 [0, 1, 2, 3] hP hD rfl rfl rfl) (m_stepAside l D cI cZ cW cJ A (aI cI ws 3 wse :: X) f vc vr (nI (t + 1)) vo (bI vm) vs vi w wb ws wc wr wl ww wf wbl xd) (cwV 2 hts gX0_fly_X0_stepAside rfl rfl rfl (by decide +kernel) ⟨Nat.le_of_ble_eq_true rfl, Nat.le_of_ble_eq_true rfl⟩) (As := [.ref w, .int xd]) (rest := []) (ci := 0) (q0 := 0) rfl rfl rfl hl.1 rfl (Nat.le_of_ble_eq_true rfl) dX0_fly_76 ⟨Nat.le_of_ble_eq_true rfl, Nat.le_of_ble_eq_true rfl⟩ (fun u_76 H locs hq hP hD hS => ?_)
          have hq_76 : u_76.1 = (sideF (blkX wbl) xd vr vs.toNatClampNeg vc).1 ∧ u_76.2.1 = (if (sideF (blkX wbl) xd vr vs.toNatClampNeg vc).2 = true then 1 else (bI vm)) ∧ u_76.2.2 = (if (sideF (blkX wbl) xd vr vs.toNatClampNeg vc).2 = true then 0 else vs) := hq
          have hP : va_P D vwCl (oX0 f u_76.1 vr (nI (t + 1)) vo u_76.2.1 u_76.2.2 vi :: oX7 w wb ws wc wr wl ww wf :: aI cI wb 10 wbl :: aI cI ws 3 wse :: X) H := pm_P hP 4 [0, 1, 2, 3] rfl
          have hD : va_D A (oX0 f u_76.1 vr (nI (t + 1)) vo u_76.2.1 u_76.2.2 vi :: oX7 w wb ws wc wr wl ww wf :: aI cI wb 10 wbl :: aI cI ws 3 wse :: X) := pm_D hD 4 [0, 1, 2, 3] rfl rfl rfl
          obtain ⟨e1_76, e2_76, e3_76⟩ := hq_76
          have e2_76 : u_76.2.1 = bI (vm || (sideF (blkX wbl) xd vr vs.toNatClampNeg vc).2) := by rw [e2_76]; cases (sideF (blkX wbl) xd vr vs.toNatClampNeg vc).2 <;> simp [bI]
          rw [e1_76, e2_76, e3_76] at hP hD
          have hP : va_P D vwCl (oX0 f ((sideF (blkX wbl) xd vr vs.toNatClampNeg vc).1) vr (nI (t + 1)) vo (bI (vm || (sideF (blkX wbl) xd vr vs.toNatClampNeg vc).2)) (if (sideF (blkX wbl) xd vr vs.toNatClampNeg vc).2 = true then 0 else vs) vi :: oX7 w wb ws wc wr wl ww wf :: aI cI wb 10 wbl :: aI cI ws 3 wse :: X) H := hP
          have hD : va_D A (oX0 f ((sideF (blkX wbl) xd vr vs.toNatClampNeg vc).1) vr (nI (t + 1)) vo (bI (vm || (sideF (blkX wbl) xd vr vs.toNatClampNeg vc).2)) (if (sideF (blkX wbl) xd vr vs.toNatClampNeg vc).2 = true then 0 else vs) vi :: oX7 w wb ws wc wr wl ww wf :: aI cI wb 10 wbl :: aI cI ws 3 wse :: X) := hD
          refine lv_aload_n hx hb dX0_fly_79 rfl (lv_at hl 1 rfl) ?_
          refine va_get (D := D) (ci := 0) (v := .int vi) (C := RX0) (T := TX0) (N := 7) hx hb hts hiX0 hown hK hP 0 rfl rfl 6 (by decide) (hts (.fieldLink RX0 38 "LedgeLeaps$Flight" "rise" "I") (List.mem_of_getElem? (i := 7) rfl)) (fun _ h9 => h9) rfl dX0_fly_80 ?_
          refine lv_if_le (tgt := 94) hx hb dX0_fly_83 (by decide) (fun c_83 => ?_) (fun c_83 => ?_)
          · refine lv_aload_n hx hb dX0_fly_94 rfl (lv_at hl 1 rfl) ?_
            refine lv_aload_n hx hb dX0_fly_95 rfl (lv_at hl 2 rfl) ?_
            refine cV_i CF hK hN hA hS (cut_of 4 [0, 1, 2, 3] hP hD rfl rfl rfl) (m_ends l D cI cZ cW cJ A (X) f ((sideF (blkX wbl) xd vr vs.toNatClampNeg vc).1) vr (nI (t + 1)) vo (if (sideF (blkX wbl) xd vr vs.toNatClampNeg vc).2 = true then 0 else vs) vi (vm || (sideF (blkX wbl) xd vr vs.toNatClampNeg vc).2) w wb ws wc wr wl ww wf wbl wse) (cwV 1 hts gX0_fly_X0_endsSteppingDown rfl rfl rfl (by decide +kernel) ⟨Nat.le_of_ble_eq_true rfl, Nat.le_of_ble_eq_true rfl⟩) (As := [.ref w]) (rest := []) (ci := 0) (q0 := 0) rfl rfl rfl hl.1 rfl (Nat.le_of_ble_eq_true rfl) dX0_fly_96 ⟨Nat.le_of_ble_eq_true rfl, Nat.le_of_ble_eq_true rfl⟩ (fun r_96 u_96 H locs hq hP hD hS => ?_)
            have hq_96 : r_96 = bI (downF (blkX wbl) ((sideF (blkX wbl) xd vr vs.toNatClampNeg vc).1) (stepsF (vm || (sideF (blkX wbl) xd vr vs.toNatClampNeg vc).2) vi (wse 2)) vr).2 ∧ u_96 = (downF (blkX wbl) ((sideF (blkX wbl) xd vr vs.toNatClampNeg vc).1) (stepsF (vm || (sideF (blkX wbl) xd vr vs.toNatClampNeg vc).2) vi (wse 2)) vr).1 := hq
            have hr_96 : r_96 = bI (downF (blkX wbl) ((sideF (blkX wbl) xd vr vs.toNatClampNeg vc).1) (stepsF (vm || (sideF (blkX wbl) xd vr vs.toNatClampNeg vc).2) vi (wse 2)) vr).2 := hq_96.1
            subst hr_96
            have hP : va_P D vwCl (oX0 f ((sideF (blkX wbl) xd vr vs.toNatClampNeg vc).1) u_96 (nI (t + 1)) vo (bI (vm || (sideF (blkX wbl) xd vr vs.toNatClampNeg vc).2)) (if (sideF (blkX wbl) xd vr vs.toNatClampNeg vc).2 = true then 0 else vs) vi :: oX7 w wb ws wc wr wl ww wf :: aI cI wb 10 wbl :: aI cI ws 3 wse :: X) H := pm_P hP 4 [0, 1, 2, 3] rfl
            have hD : va_D A (oX0 f ((sideF (blkX wbl) xd vr vs.toNatClampNeg vc).1) u_96 (nI (t + 1)) vo (bI (vm || (sideF (blkX wbl) xd vr vs.toNatClampNeg vc).2)) (if (sideF (blkX wbl) xd vr vs.toNatClampNeg vc).2 = true then 0 else vs) vi :: oX7 w wb ws wc wr wl ww wf :: aI cI wb 10 wbl :: aI cI ws 3 wse :: X) := pm_D hD 4 [0, 1, 2, 3] rfl rfl rfl
            have e2_96 := hq_96.2
            rw [e2_96] at hP hD
            have hP : va_P D vwCl (oX0 f ((sideF (blkX wbl) xd vr vs.toNatClampNeg vc).1) ((downF (blkX wbl) (sideF (blkX wbl) xd vr vs.toNatClampNeg vc).1 (stepsF (vm || (sideF (blkX wbl) xd vr vs.toNatClampNeg vc).2) vi (wse 2)) vr).1) (nI (t + 1)) vo (bI (vm || (sideF (blkX wbl) xd vr vs.toNatClampNeg vc).2)) (if (sideF (blkX wbl) xd vr vs.toNatClampNeg vc).2 = true then 0 else vs) vi :: oX7 w wb ws wc wr wl ww wf :: aI cI wb 10 wbl :: aI cI ws 3 wse :: X) H := hP
            have hD : va_D A (oX0 f ((sideF (blkX wbl) xd vr vs.toNatClampNeg vc).1) ((downF (blkX wbl) (sideF (blkX wbl) xd vr vs.toNatClampNeg vc).1 (stepsF (vm || (sideF (blkX wbl) xd vr vs.toNatClampNeg vc).2) vi (wse 2)) vr).1) (nI (t + 1)) vo (bI (vm || (sideF (blkX wbl) xd vr vs.toNatClampNeg vc).2)) (if (sideF (blkX wbl) xd vr vs.toNatClampNeg vc).2 = true then 0 else vs) vi :: oX7 w wb ws wc wr wl ww wf :: aI cI wb 10 wbl :: aI cI ws 3 wse :: X) := hD
            refine lv_istore (lv' := [(6, .int (bI (downF (blkX wbl) ((sideF (blkX wbl) xd vr vs.toNatClampNeg vc).1) (stepsF (vm || (sideF (blkX wbl) xd vr vs.toNatClampNeg vc).2) vi (wse 2)) vr).2)), (0, .ref f), (1, .ref w), (2, .int xc), (3, .int xr), (4, .int xd), (5, .int xu)]) hx hb dX0_fly_99 hl (by decide) rfl (fun ls hl => ?_)
            refine lv_aload_n hx hb dX0_fly_101 rfl (lv_at hl 1 rfl) ?_
            refine lv_aload_n hx hb dX0_fly_102 rfl (lv_at hl 1 rfl) ?_
            refine va_get (D := D) (ci := 0) (v := .int vo) (C := RX0) (T := TX0) (N := 7) hx hb hts hiX0 hown hK hP 0 rfl rfl 3 (by decide) (hts (.fieldLink RX0 18 "LedgeLeaps$Flight" "topRow" "I") (List.mem_of_getElem? (i := 3) rfl)) (fun _ h9 => h9) rfl dX0_fly_103 ?_
            refine lv_aload_n hx hb dX0_fly_106 rfl (lv_at hl 1 rfl) ?_
            refine va_get (D := D) (ci := 0) (v := .int ((downF (blkX wbl) (sideF (blkX wbl) xd vr vs.toNatClampNeg vc).1 (stepsF (vm || (sideF (blkX wbl) xd vr vs.toNatClampNeg vc).2) vi (wse 2)) vr).1)) (C := RX0) (T := TX0) (N := 7) hx hb hts hiX0 hown hK hP 0 rfl rfl 1 (by decide) (hts (.fieldLink RX0 15 "LedgeLeaps$Flight" "row" "I") (List.mem_of_getElem? (i := 2) rfl)) (fun _ h9 => h9) rfl dX0_fly_107 ?_
            refine va_mmax hx hb (hml.trans hl.1.symm) hown (hts (.methodLink RX0 56 Lib.Math.max.name) (List.mem_of_getElem? (i := 9) rfl)) (hts (.static Lib.Math.max.name) (List.mem_of_getElem? (i := 10) rfl)) (hts (.initialized "java/lang/Math") (List.mem_of_getElem? (i := 11) rfl)) (hts (.code Lib.Math.max.name Lib.Math.max.code 2 (some .int)) (List.mem_of_getElem? (i := 12) rfl)) (Nat.le_of_ble_eq_true rfl) (Nat.le_of_ble_eq_true rfl) (Nat.zero_le _) (Nat.zero_le _) dX0_fly_110 ?_
            refine va_put (D := D) (ci := 0) (v := .int (if vo < ((downF (blkX wbl) (sideF (blkX wbl) xd vr vs.toNatClampNeg vc).1 (stepsF (vm || (sideF (blkX wbl) xd vr vs.toNatClampNeg vc).2) vi (wse 2)) vr).1) then ((downF (blkX wbl) (sideF (blkX wbl) xd vr vs.toNatClampNeg vc).1 (stepsF (vm || (sideF (blkX wbl) xd vr vs.toNatClampNeg vc).2) vi (wse 2)) vr).1) else vo)) (ty := .int) (C := RX0) (T := TX0) (N := 7) hx hb hts hiX0 tyX0 tyX0_ok nmX0 hown hK hP hD hS 0 rfl rfl 3 (by decide) (hts (.fieldLink RX0 18 "LedgeLeaps$Flight" "topRow" "I") (List.mem_of_getElem? (i := 3) rfl)) (fun _ h9 => h9) rfl (by decide +kernel) rfl rfl (Nat.le_of_ble_eq_true rfl) dX0_fly_113 (fun H locs hP hD hS => ?_)
            have hP : va_P D vwCl (oX0 f ((sideF (blkX wbl) xd vr vs.toNatClampNeg vc).1) ((downF (blkX wbl) (sideF (blkX wbl) xd vr vs.toNatClampNeg vc).1 (stepsF (vm || (sideF (blkX wbl) xd vr vs.toNatClampNeg vc).2) vi (wse 2)) vr).1) (nI (t + 1)) (if vo < ((downF (blkX wbl) (sideF (blkX wbl) xd vr vs.toNatClampNeg vc).1 (stepsF (vm || (sideF (blkX wbl) xd vr vs.toNatClampNeg vc).2) vi (wse 2)) vr).1) then ((downF (blkX wbl) (sideF (blkX wbl) xd vr vs.toNatClampNeg vc).1 (stepsF (vm || (sideF (blkX wbl) xd vr vs.toNatClampNeg vc).2) vi (wse 2)) vr).1) else vo) (bI (vm || (sideF (blkX wbl) xd vr vs.toNatClampNeg vc).2)) (if (sideF (blkX wbl) xd vr vs.toNatClampNeg vc).2 = true then 0 else vs) vi :: oX7 w wb ws wc wr wl ww wf :: aI cI wb 10 wbl :: aI cI ws 3 wse :: X) H := hP
            have hD : va_D A (oX0 f ((sideF (blkX wbl) xd vr vs.toNatClampNeg vc).1) ((downF (blkX wbl) (sideF (blkX wbl) xd vr vs.toNatClampNeg vc).1 (stepsF (vm || (sideF (blkX wbl) xd vr vs.toNatClampNeg vc).2) vi (wse 2)) vr).1) (nI (t + 1)) (if vo < ((downF (blkX wbl) (sideF (blkX wbl) xd vr vs.toNatClampNeg vc).1 (stepsF (vm || (sideF (blkX wbl) xd vr vs.toNatClampNeg vc).2) vi (wse 2)) vr).1) then ((downF (blkX wbl) (sideF (blkX wbl) xd vr vs.toNatClampNeg vc).1 (stepsF (vm || (sideF (blkX wbl) xd vr vs.toNatClampNeg vc).2) vi (wse 2)) vr).1) else vo) (bI (vm || (sideF (blkX wbl) xd vr vs.toNatClampNeg vc).2)) (if (sideF (blkX wbl) xd vr vs.toNatClampNeg vc).2 = true then 0 else vs) vi :: oX7 w wb ws wc wr wl ww wf :: aI cI wb 10 wbl :: aI cI ws 3 wse :: X) := hD
            refine lv_aload_n hx hb dX0_fly_116 rfl (lv_at hl 1 rfl) ?_
            refine lv_aload_n hx hb dX0_fly_117 rfl (lv_at hl 1 rfl) ?_
            refine va_get (D := D) (ci := 0) (v := .int vi) (C := RX0) (T := TX0) (N := 7) hx hb hts hiX0 hown hK hP 0 rfl rfl 6 (by decide) (hts (.fieldLink RX0 38 "LedgeLeaps$Flight" "rise" "I") (List.mem_of_getElem? (i := 7) rfl)) (fun _ h9 => h9) rfl dX0_fly_118 ?_
            refine lv_iconst (v := 1) hx hb dX0_fly_121 (by decide) ?_
            refine lv_isub hx hb dX0_fly_122 ?_
            refine lv_aload_n hx hb dX0_fly_123 rfl (lv_at hl 2 rfl) ?_
            refine va_get (D := D) (ci := 7) (v := .ref ws) (C := RX7) (T := TX7) (N := 7) hx hb hts hiX7 hown hK hP 1 rfl rfl 1 (by decide) (hts (.fieldLink RX0 28 "LedgeLeaps$World" "settings" "[I") (List.mem_of_getElem? (i := 6) rfl)) (fun _ h9 => h9) rfl dX0_fly_124 ?_
            refine lv_iconst (v := 1) hx hb dX0_fly_127 (by decide) ?_
            refine cSN_i CF hK hN hA hS (cut_of 4 [3, 0, 1, 2] hP hD rfl rfl rfl) (m_at l D cI cZ cW cJ A (oX0 f ((sideF (blkX wbl) xd vr vs.toNatClampNeg vc).1) ((downF (blkX wbl) (sideF (blkX wbl) xd vr vs.toNatClampNeg vc).1 (stepsF (vm || (sideF (blkX wbl) xd vr vs.toNatClampNeg vc).2) vi (wse 2)) vr).1) (nI (t + 1)) (if vo < ((downF (blkX wbl) (sideF (blkX wbl) xd vr vs.toNatClampNeg vc).1 (stepsF (vm || (sideF (blkX wbl) xd vr vs.toNatClampNeg vc).2) vi (wse 2)) vr).1) then ((downF (blkX wbl) (sideF (blkX wbl) xd vr vs.toNatClampNeg vc).1 (stepsF (vm || (sideF (blkX wbl) xd vr vs.toNatClampNeg vc).2) vi (wse 2)) vr).1) else vo) (bI (vm || (sideF (blkX wbl) xd vr vs.toNatClampNeg vc).2)) (if (sideF (blkX wbl) xd vr vs.toNatClampNeg vc).2 = true then 0 else vs) vi :: oX7 w wb ws wc wr wl ww wf :: aI cI wb 10 wbl :: X) ws 3 wse 1 (by decide)) ⟨va_cnB 2 hts gX0_fly_X8_at_n34 rfl rfl rfl (hN (RX0, 34, yX8_at) (List.mem_of_getElem? (i := 6) rfl)) (hts (.initialized RX8) (List.mem_of_getElem? (i := 14) rfl)) (by decide +kernel) ⟨Nat.le_of_ble_eq_true rfl, Nat.le_of_ble_eq_true rfl⟩, (hts (.static yX8_at) (List.mem_of_getElem? (i := 13) rfl)), trivial⟩ (As := [.ref ws, .int 1]) (rest := [.int (vi - 1), .ref f]) rfl hl.1 rfl (Nat.le_of_ble_eq_true rfl) dX0_fly_128 ⟨Nat.le_of_ble_eq_true rfl, Nat.le_of_ble_eq_true rfl⟩ (fun r_128 _ H locs hq hP hD hS => ?_)
            have hq : r_128 = atX 3 wse 1 := hq
            subst hq
            have hP : va_P D vwCl (oX0 f ((sideF (blkX wbl) xd vr vs.toNatClampNeg vc).1) ((downF (blkX wbl) (sideF (blkX wbl) xd vr vs.toNatClampNeg vc).1 (stepsF (vm || (sideF (blkX wbl) xd vr vs.toNatClampNeg vc).2) vi (wse 2)) vr).1) (nI (t + 1)) (if vo < ((downF (blkX wbl) (sideF (blkX wbl) xd vr vs.toNatClampNeg vc).1 (stepsF (vm || (sideF (blkX wbl) xd vr vs.toNatClampNeg vc).2) vi (wse 2)) vr).1) then ((downF (blkX wbl) (sideF (blkX wbl) xd vr vs.toNatClampNeg vc).1 (stepsF (vm || (sideF (blkX wbl) xd vr vs.toNatClampNeg vc).2) vi (wse 2)) vr).1) else vo) (bI (vm || (sideF (blkX wbl) xd vr vs.toNatClampNeg vc).2)) (if (sideF (blkX wbl) xd vr vs.toNatClampNeg vc).2 = true then 0 else vs) vi :: oX7 w wb ws wc wr wl ww wf :: aI cI wb 10 wbl :: aI cI ws 3 wse :: X) H := pm_P hP 4 [1, 2, 3, 0] rfl
            have hD : va_D A (oX0 f ((sideF (blkX wbl) xd vr vs.toNatClampNeg vc).1) ((downF (blkX wbl) (sideF (blkX wbl) xd vr vs.toNatClampNeg vc).1 (stepsF (vm || (sideF (blkX wbl) xd vr vs.toNatClampNeg vc).2) vi (wse 2)) vr).1) (nI (t + 1)) (if vo < ((downF (blkX wbl) (sideF (blkX wbl) xd vr vs.toNatClampNeg vc).1 (stepsF (vm || (sideF (blkX wbl) xd vr vs.toNatClampNeg vc).2) vi (wse 2)) vr).1) then ((downF (blkX wbl) (sideF (blkX wbl) xd vr vs.toNatClampNeg vc).1 (stepsF (vm || (sideF (blkX wbl) xd vr vs.toNatClampNeg vc).2) vi (wse 2)) vr).1) else vo) (bI (vm || (sideF (blkX wbl) xd vr vs.toNatClampNeg vc).2)) (if (sideF (blkX wbl) xd vr vs.toNatClampNeg vc).2 = true then 0 else vs) vi :: oX7 w wb ws wc wr wl ww wf :: aI cI wb 10 wbl :: aI cI ws 3 wse :: X) := pm_D hD 4 [1, 2, 3, 0] rfl rfl rfl
            refine top_i (y := (wse 1)) (at31 wse) ?_
            refine lv_ineg hx hb dX0_fly_131 ?_
            refine va_mmax hx hb (hml.trans hl.1.symm) hown (hts (.methodLink RX0 56 Lib.Math.max.name) (List.mem_of_getElem? (i := 9) rfl)) (hts (.static Lib.Math.max.name) (List.mem_of_getElem? (i := 10) rfl)) (hts (.initialized "java/lang/Math") (List.mem_of_getElem? (i := 11) rfl)) (hts (.code Lib.Math.max.name Lib.Math.max.code 2 (some .int)) (List.mem_of_getElem? (i := 12) rfl)) (Nat.le_of_ble_eq_true rfl) (Nat.le_of_ble_eq_true rfl) (Nat.zero_le _) (Nat.zero_le _) dX0_fly_132 ?_
            refine va_put (D := D) (ci := 0) (v := .int (if (vi - 1) < (-(wse 1)) then (-(wse 1)) else (vi - 1))) (ty := .int) (C := RX0) (T := TX0) (N := 7) hx hb hts hiX0 tyX0 tyX0_ok nmX0 hown hK hP hD hS 0 rfl rfl 6 (by decide) (hts (.fieldLink RX0 38 "LedgeLeaps$Flight" "rise" "I") (List.mem_of_getElem? (i := 7) rfl)) (fun _ h9 => h9) rfl (by decide +kernel) rfl rfl (Nat.le_of_ble_eq_true rfl) dX0_fly_135 (fun H locs hP hD hS => ?_)
            have hP : va_P D vwCl (oX0 f ((sideF (blkX wbl) xd vr vs.toNatClampNeg vc).1) ((downF (blkX wbl) (sideF (blkX wbl) xd vr vs.toNatClampNeg vc).1 (stepsF (vm || (sideF (blkX wbl) xd vr vs.toNatClampNeg vc).2) vi (wse 2)) vr).1) (nI (t + 1)) (if vo < ((downF (blkX wbl) (sideF (blkX wbl) xd vr vs.toNatClampNeg vc).1 (stepsF (vm || (sideF (blkX wbl) xd vr vs.toNatClampNeg vc).2) vi (wse 2)) vr).1) then ((downF (blkX wbl) (sideF (blkX wbl) xd vr vs.toNatClampNeg vc).1 (stepsF (vm || (sideF (blkX wbl) xd vr vs.toNatClampNeg vc).2) vi (wse 2)) vr).1) else vo) (bI (vm || (sideF (blkX wbl) xd vr vs.toNatClampNeg vc).2)) (if (sideF (blkX wbl) xd vr vs.toNatClampNeg vc).2 = true then 0 else vs) (if (vi - 1) < (-(wse 1)) then (-(wse 1)) else (vi - 1)) :: oX7 w wb ws wc wr wl ww wf :: aI cI wb 10 wbl :: aI cI ws 3 wse :: X) H := hP
            have hD : va_D A (oX0 f ((sideF (blkX wbl) xd vr vs.toNatClampNeg vc).1) ((downF (blkX wbl) (sideF (blkX wbl) xd vr vs.toNatClampNeg vc).1 (stepsF (vm || (sideF (blkX wbl) xd vr vs.toNatClampNeg vc).2) vi (wse 2)) vr).1) (nI (t + 1)) (if vo < ((downF (blkX wbl) (sideF (blkX wbl) xd vr vs.toNatClampNeg vc).1 (stepsF (vm || (sideF (blkX wbl) xd vr vs.toNatClampNeg vc).2) vi (wse 2)) vr).1) then ((downF (blkX wbl) (sideF (blkX wbl) xd vr vs.toNatClampNeg vc).1 (stepsF (vm || (sideF (blkX wbl) xd vr vs.toNatClampNeg vc).2) vi (wse 2)) vr).1) else vo) (bI (vm || (sideF (blkX wbl) xd vr vs.toNatClampNeg vc).2)) (if (sideF (blkX wbl) xd vr vs.toNatClampNeg vc).2 = true then 0 else vs) (if (vi - 1) < (-(wse 1)) then (-(wse 1)) else (vi - 1)) :: oX7 w wb ws wc wr wl ww wf :: aI cI wb 10 wbl :: aI cI ws 3 wse :: X) := hD
            refine lv_goto (tgt := 48) hx hb dX0_fly_138 (by decide) ?_
            exact ih_48 (t + 1) ((sideF (blkX wbl) xd vr vs.toNatClampNeg vc).1) ((downF (blkX wbl) (sideF (blkX wbl) xd vr vs.toNatClampNeg vc).1 (stepsF (vm || (sideF (blkX wbl) xd vr vs.toNatClampNeg vc).2) vi (wse 2)) vr).1) (max2 vo (downF (blkX wbl) (sideF (blkX wbl) xd vr vs.toNatClampNeg vc).1 (stepsF (vm || (sideF (blkX wbl) xd vr vs.toNatClampNeg vc).2) vi (wse 2)) vr).1) (vm || (sideF (blkX wbl) xd vr vs.toNatClampNeg vc).2) (if (sideF (blkX wbl) xd vr vs.toNatClampNeg vc).2 = true then 0 else vs) (max2 (vi - 1) (-(wse 1))) ((downF (blkX wbl) (sideF (blkX wbl) xd vr vs.toNatClampNeg vc).1 (stepsF (vm || (sideF (blkX wbl) xd vr vs.toNatClampNeg vc).2) vi (wse 2)) vr).2) (by omega) (by omega) (by rw [← hv, show 100 - t = (100 - (t + 1)) + 1 by omega, flyF, if_neg (Int32.not_lt.mpr c_83), nI_1]) _ _ (hP) (hD) hS _ (lv_sub hl [0, 1, 2, 3, 4, 5, 6] rfl)
          · refine lv_aload_n hx hb dX0_fly_86 rfl (lv_at hl 1 rfl) ?_
            refine lv_aload_n hx hb dX0_fly_87 rfl (lv_at hl 2 rfl) ?_
            refine cV_v CF hK hN hA hS (cut_of 4 [0, 1, 2, 3] hP hD rfl rfl rfl) (m_stepUp l D cI cZ cW cJ A (aI cI ws 3 wse :: X) f ((sideF (blkX wbl) xd vr vs.toNatClampNeg vc).1) vr (nI (t + 1)) vo (bI (vm || (sideF (blkX wbl) xd vr vs.toNatClampNeg vc).2)) (if (sideF (blkX wbl) xd vr vs.toNatClampNeg vc).2 = true then 0 else vs) vi w wb ws wc wr wl ww wf wbl) (cwV 1 hts gX0_fly_X0_stepUp rfl rfl rfl (by decide +kernel) ⟨Nat.le_of_ble_eq_true rfl, Nat.le_of_ble_eq_true rfl⟩) (As := [.ref w]) (rest := []) (ci := 0) (q0 := 0) rfl rfl rfl hl.1 rfl (Nat.le_of_ble_eq_true rfl) dX0_fly_88 ⟨Nat.le_of_ble_eq_true rfl, Nat.le_of_ble_eq_true rfl⟩ (fun u_88 H locs hq hP hD hS => ?_)
            have hq_88 : u_88.1 = (upF (blkX wbl) ((sideF (blkX wbl) xd vr vs.toNatClampNeg vc).1) vi.toNatClampNeg vr).1 ∧ u_88.2 = (if (upF (blkX wbl) ((sideF (blkX wbl) xd vr vs.toNatClampNeg vc).1) vi.toNatClampNeg vr).2 = true then 0 else vi) := hq
            have hP : va_P D vwCl (oX0 f ((sideF (blkX wbl) xd vr vs.toNatClampNeg vc).1) u_88.1 (nI (t + 1)) vo (bI (vm || (sideF (blkX wbl) xd vr vs.toNatClampNeg vc).2)) (if (sideF (blkX wbl) xd vr vs.toNatClampNeg vc).2 = true then 0 else vs) u_88.2 :: oX7 w wb ws wc wr wl ww wf :: aI cI wb 10 wbl :: aI cI ws 3 wse :: X) H := pm_P hP 4 [0, 1, 2, 3] rfl
            have hD : va_D A (oX0 f ((sideF (blkX wbl) xd vr vs.toNatClampNeg vc).1) u_88.1 (nI (t + 1)) vo (bI (vm || (sideF (blkX wbl) xd vr vs.toNatClampNeg vc).2)) (if (sideF (blkX wbl) xd vr vs.toNatClampNeg vc).2 = true then 0 else vs) u_88.2 :: oX7 w wb ws wc wr wl ww wf :: aI cI wb 10 wbl :: aI cI ws 3 wse :: X) := pm_D hD 4 [0, 1, 2, 3] rfl rfl rfl
            obtain ⟨e1_88, e2_88⟩ := hq_88
            rw [e1_88, e2_88] at hP hD
            have hP : va_P D vwCl (oX0 f ((sideF (blkX wbl) xd vr vs.toNatClampNeg vc).1) ((upF (blkX wbl) (sideF (blkX wbl) xd vr vs.toNatClampNeg vc).1 vi.toNatClampNeg vr).1) (nI (t + 1)) vo (bI (vm || (sideF (blkX wbl) xd vr vs.toNatClampNeg vc).2)) (if (sideF (blkX wbl) xd vr vs.toNatClampNeg vc).2 = true then 0 else vs) (if (upF (blkX wbl) (sideF (blkX wbl) xd vr vs.toNatClampNeg vc).1 vi.toNatClampNeg vr).2 = true then 0 else vi) :: oX7 w wb ws wc wr wl ww wf :: aI cI wb 10 wbl :: aI cI ws 3 wse :: X) H := hP
            have hD : va_D A (oX0 f ((sideF (blkX wbl) xd vr vs.toNatClampNeg vc).1) ((upF (blkX wbl) (sideF (blkX wbl) xd vr vs.toNatClampNeg vc).1 vi.toNatClampNeg vr).1) (nI (t + 1)) vo (bI (vm || (sideF (blkX wbl) xd vr vs.toNatClampNeg vc).2)) (if (sideF (blkX wbl) xd vr vs.toNatClampNeg vc).2 = true then 0 else vs) (if (upF (blkX wbl) (sideF (blkX wbl) xd vr vs.toNatClampNeg vc).1 vi.toNatClampNeg vr).2 = true then 0 else vi) :: oX7 w wb ws wc wr wl ww wf :: aI cI wb 10 wbl :: aI cI ws 3 wse :: X) := hD
            refine lv_goto (tgt := 101) hx hb dX0_fly_91 (by decide) ?_
            refine lv_aload_n hx hb dX0_fly_101 rfl (lv_at hl 1 rfl) ?_
            refine lv_aload_n hx hb dX0_fly_102 rfl (lv_at hl 1 rfl) ?_
            refine va_get (D := D) (ci := 0) (v := .int vo) (C := RX0) (T := TX0) (N := 7) hx hb hts hiX0 hown hK hP 0 rfl rfl 3 (by decide) (hts (.fieldLink RX0 18 "LedgeLeaps$Flight" "topRow" "I") (List.mem_of_getElem? (i := 3) rfl)) (fun _ h9 => h9) rfl dX0_fly_103 ?_
            refine lv_aload_n hx hb dX0_fly_106 rfl (lv_at hl 1 rfl) ?_
            refine va_get (D := D) (ci := 0) (v := .int ((upF (blkX wbl) (sideF (blkX wbl) xd vr vs.toNatClampNeg vc).1 vi.toNatClampNeg vr).1)) (C := RX0) (T := TX0) (N := 7) hx hb hts hiX0 hown hK hP 0 rfl rfl 1 (by decide) (hts (.fieldLink RX0 15 "LedgeLeaps$Flight" "row" "I") (List.mem_of_getElem? (i := 2) rfl)) (fun _ h9 => h9) rfl dX0_fly_107 ?_
            refine va_mmax hx hb (hml.trans hl.1.symm) hown (hts (.methodLink RX0 56 Lib.Math.max.name) (List.mem_of_getElem? (i := 9) rfl)) (hts (.static Lib.Math.max.name) (List.mem_of_getElem? (i := 10) rfl)) (hts (.initialized "java/lang/Math") (List.mem_of_getElem? (i := 11) rfl)) (hts (.code Lib.Math.max.name Lib.Math.max.code 2 (some .int)) (List.mem_of_getElem? (i := 12) rfl)) (Nat.le_of_ble_eq_true rfl) (Nat.le_of_ble_eq_true rfl) (Nat.zero_le _) (Nat.zero_le _) dX0_fly_110 ?_
            refine va_put (D := D) (ci := 0) (v := .int (if vo < ((upF (blkX wbl) (sideF (blkX wbl) xd vr vs.toNatClampNeg vc).1 vi.toNatClampNeg vr).1) then ((upF (blkX wbl) (sideF (blkX wbl) xd vr vs.toNatClampNeg vc).1 vi.toNatClampNeg vr).1) else vo)) (ty := .int) (C := RX0) (T := TX0) (N := 7) hx hb hts hiX0 tyX0 tyX0_ok nmX0 hown hK hP hD hS 0 rfl rfl 3 (by decide) (hts (.fieldLink RX0 18 "LedgeLeaps$Flight" "topRow" "I") (List.mem_of_getElem? (i := 3) rfl)) (fun _ h9 => h9) rfl (by decide +kernel) rfl rfl (Nat.le_of_ble_eq_true rfl) dX0_fly_113 (fun H locs hP hD hS => ?_)
            have hP : va_P D vwCl (oX0 f ((sideF (blkX wbl) xd vr vs.toNatClampNeg vc).1) ((upF (blkX wbl) (sideF (blkX wbl) xd vr vs.toNatClampNeg vc).1 vi.toNatClampNeg vr).1) (nI (t + 1)) (if vo < ((upF (blkX wbl) (sideF (blkX wbl) xd vr vs.toNatClampNeg vc).1 vi.toNatClampNeg vr).1) then ((upF (blkX wbl) (sideF (blkX wbl) xd vr vs.toNatClampNeg vc).1 vi.toNatClampNeg vr).1) else vo) (bI (vm || (sideF (blkX wbl) xd vr vs.toNatClampNeg vc).2)) (if (sideF (blkX wbl) xd vr vs.toNatClampNeg vc).2 = true then 0 else vs) (if (upF (blkX wbl) (sideF (blkX wbl) xd vr vs.toNatClampNeg vc).1 vi.toNatClampNeg vr).2 = true then 0 else vi) :: oX7 w wb ws wc wr wl ww wf :: aI cI wb 10 wbl :: aI cI ws 3 wse :: X) H := hP
            have hD : va_D A (oX0 f ((sideF (blkX wbl) xd vr vs.toNatClampNeg vc).1) ((upF (blkX wbl) (sideF (blkX wbl) xd vr vs.toNatClampNeg vc).1 vi.toNatClampNeg vr).1) (nI (t + 1)) (if vo < ((upF (blkX wbl) (sideF (blkX wbl) xd vr vs.toNatClampNeg vc).1 vi.toNatClampNeg vr).1) then ((upF (blkX wbl) (sideF (blkX wbl) xd vr vs.toNatClampNeg vc).1 vi.toNatClampNeg vr).1) else vo) (bI (vm || (sideF (blkX wbl) xd vr vs.toNatClampNeg vc).2)) (if (sideF (blkX wbl) xd vr vs.toNatClampNeg vc).2 = true then 0 else vs) (if (upF (blkX wbl) (sideF (blkX wbl) xd vr vs.toNatClampNeg vc).1 vi.toNatClampNeg vr).2 = true then 0 else vi) :: oX7 w wb ws wc wr wl ww wf :: aI cI wb 10 wbl :: aI cI ws 3 wse :: X) := hD
            refine lv_aload_n hx hb dX0_fly_116 rfl (lv_at hl 1 rfl) ?_
            refine lv_aload_n hx hb dX0_fly_117 rfl (lv_at hl 1 rfl) ?_
            refine va_get (D := D) (ci := 0) (v := .int (if (upF (blkX wbl) (sideF (blkX wbl) xd vr vs.toNatClampNeg vc).1 vi.toNatClampNeg vr).2 = true then 0 else vi)) (C := RX0) (T := TX0) (N := 7) hx hb hts hiX0 hown hK hP 0 rfl rfl 6 (by decide) (hts (.fieldLink RX0 38 "LedgeLeaps$Flight" "rise" "I") (List.mem_of_getElem? (i := 7) rfl)) (fun _ h9 => h9) rfl dX0_fly_118 ?_
            refine lv_iconst (v := 1) hx hb dX0_fly_121 (by decide) ?_
            refine lv_isub hx hb dX0_fly_122 ?_
            refine lv_aload_n hx hb dX0_fly_123 rfl (lv_at hl 2 rfl) ?_
            refine va_get (D := D) (ci := 7) (v := .ref ws) (C := RX7) (T := TX7) (N := 7) hx hb hts hiX7 hown hK hP 1 rfl rfl 1 (by decide) (hts (.fieldLink RX0 28 "LedgeLeaps$World" "settings" "[I") (List.mem_of_getElem? (i := 6) rfl)) (fun _ h9 => h9) rfl dX0_fly_124 ?_
            refine lv_iconst (v := 1) hx hb dX0_fly_127 (by decide) ?_
            refine cSN_i CF hK hN hA hS (cut_of 4 [3, 0, 1, 2] hP hD rfl rfl rfl) (m_at l D cI cZ cW cJ A (oX0 f ((sideF (blkX wbl) xd vr vs.toNatClampNeg vc).1) ((upF (blkX wbl) (sideF (blkX wbl) xd vr vs.toNatClampNeg vc).1 vi.toNatClampNeg vr).1) (nI (t + 1)) (if vo < ((upF (blkX wbl) (sideF (blkX wbl) xd vr vs.toNatClampNeg vc).1 vi.toNatClampNeg vr).1) then ((upF (blkX wbl) (sideF (blkX wbl) xd vr vs.toNatClampNeg vc).1 vi.toNatClampNeg vr).1) else vo) (bI (vm || (sideF (blkX wbl) xd vr vs.toNatClampNeg vc).2)) (if (sideF (blkX wbl) xd vr vs.toNatClampNeg vc).2 = true then 0 else vs) (if (upF (blkX wbl) (sideF (blkX wbl) xd vr vs.toNatClampNeg vc).1 vi.toNatClampNeg vr).2 = true then 0 else vi) :: oX7 w wb ws wc wr wl ww wf :: aI cI wb 10 wbl :: X) ws 3 wse 1 (by decide)) ⟨va_cnB 2 hts gX0_fly_X8_at_n34 rfl rfl rfl (hN (RX0, 34, yX8_at) (List.mem_of_getElem? (i := 6) rfl)) (hts (.initialized RX8) (List.mem_of_getElem? (i := 14) rfl)) (by decide +kernel) ⟨Nat.le_of_ble_eq_true rfl, Nat.le_of_ble_eq_true rfl⟩, (hts (.static yX8_at) (List.mem_of_getElem? (i := 13) rfl)), trivial⟩ (As := [.ref ws, .int 1]) (rest := [.int ((if (upF (blkX wbl) (sideF (blkX wbl) xd vr vs.toNatClampNeg vc).1 vi.toNatClampNeg vr).2 = true then 0 else vi) - 1), .ref f]) rfl hl.1 rfl (Nat.le_of_ble_eq_true rfl) dX0_fly_128 ⟨Nat.le_of_ble_eq_true rfl, Nat.le_of_ble_eq_true rfl⟩ (fun r_128 _ H locs hq hP hD hS => ?_)
            have hq : r_128 = atX 3 wse 1 := hq
            subst hq
            have hP : va_P D vwCl (oX0 f ((sideF (blkX wbl) xd vr vs.toNatClampNeg vc).1) ((upF (blkX wbl) (sideF (blkX wbl) xd vr vs.toNatClampNeg vc).1 vi.toNatClampNeg vr).1) (nI (t + 1)) (if vo < ((upF (blkX wbl) (sideF (blkX wbl) xd vr vs.toNatClampNeg vc).1 vi.toNatClampNeg vr).1) then ((upF (blkX wbl) (sideF (blkX wbl) xd vr vs.toNatClampNeg vc).1 vi.toNatClampNeg vr).1) else vo) (bI (vm || (sideF (blkX wbl) xd vr vs.toNatClampNeg vc).2)) (if (sideF (blkX wbl) xd vr vs.toNatClampNeg vc).2 = true then 0 else vs) (if (upF (blkX wbl) (sideF (blkX wbl) xd vr vs.toNatClampNeg vc).1 vi.toNatClampNeg vr).2 = true then 0 else vi) :: oX7 w wb ws wc wr wl ww wf :: aI cI wb 10 wbl :: aI cI ws 3 wse :: X) H := pm_P hP 4 [1, 2, 3, 0] rfl
            have hD : va_D A (oX0 f ((sideF (blkX wbl) xd vr vs.toNatClampNeg vc).1) ((upF (blkX wbl) (sideF (blkX wbl) xd vr vs.toNatClampNeg vc).1 vi.toNatClampNeg vr).1) (nI (t + 1)) (if vo < ((upF (blkX wbl) (sideF (blkX wbl) xd vr vs.toNatClampNeg vc).1 vi.toNatClampNeg vr).1) then ((upF (blkX wbl) (sideF (blkX wbl) xd vr vs.toNatClampNeg vc).1 vi.toNatClampNeg vr).1) else vo) (bI (vm || (sideF (blkX wbl) xd vr vs.toNatClampNeg vc).2)) (if (sideF (blkX wbl) xd vr vs.toNatClampNeg vc).2 = true then 0 else vs) (if (upF (blkX wbl) (sideF (blkX wbl) xd vr vs.toNatClampNeg vc).1 vi.toNatClampNeg vr).2 = true then 0 else vi) :: oX7 w wb ws wc wr wl ww wf :: aI cI wb 10 wbl :: aI cI ws 3 wse :: X) := pm_D hD 4 [1, 2, 3, 0] rfl rfl rfl
            refine top_i (y := (wse 1)) (at31 wse) ?_
            refine lv_ineg hx hb dX0_fly_131 ?_
            refine va_mmax hx hb (hml.trans hl.1.symm) hown (hts (.methodLink RX0 56 Lib.Math.max.name) (List.mem_of_getElem? (i := 9) rfl)) (hts (.static Lib.Math.max.name) (List.mem_of_getElem? (i := 10) rfl)) (hts (.initialized "java/lang/Math") (List.mem_of_getElem? (i := 11) rfl)) (hts (.code Lib.Math.max.name Lib.Math.max.code 2 (some .int)) (List.mem_of_getElem? (i := 12) rfl)) (Nat.le_of_ble_eq_true rfl) (Nat.le_of_ble_eq_true rfl) (Nat.zero_le _) (Nat.zero_le _) dX0_fly_132 ?_
            refine va_put (D := D) (ci := 0) (v := .int (if ((if (upF (blkX wbl) (sideF (blkX wbl) xd vr vs.toNatClampNeg vc).1 vi.toNatClampNeg vr).2 = true then 0 else vi) - 1) < (-(wse 1)) then (-(wse 1)) else ((if (upF (blkX wbl) (sideF (blkX wbl) xd vr vs.toNatClampNeg vc).1 vi.toNatClampNeg vr).2 = true then 0 else vi) - 1))) (ty := .int) (C := RX0) (T := TX0) (N := 7) hx hb hts hiX0 tyX0 tyX0_ok nmX0 hown hK hP hD hS 0 rfl rfl 6 (by decide) (hts (.fieldLink RX0 38 "LedgeLeaps$Flight" "rise" "I") (List.mem_of_getElem? (i := 7) rfl)) (fun _ h9 => h9) rfl (by decide +kernel) rfl rfl (Nat.le_of_ble_eq_true rfl) dX0_fly_135 (fun H locs hP hD hS => ?_)
            have hP : va_P D vwCl (oX0 f ((sideF (blkX wbl) xd vr vs.toNatClampNeg vc).1) ((upF (blkX wbl) (sideF (blkX wbl) xd vr vs.toNatClampNeg vc).1 vi.toNatClampNeg vr).1) (nI (t + 1)) (if vo < ((upF (blkX wbl) (sideF (blkX wbl) xd vr vs.toNatClampNeg vc).1 vi.toNatClampNeg vr).1) then ((upF (blkX wbl) (sideF (blkX wbl) xd vr vs.toNatClampNeg vc).1 vi.toNatClampNeg vr).1) else vo) (bI (vm || (sideF (blkX wbl) xd vr vs.toNatClampNeg vc).2)) (if (sideF (blkX wbl) xd vr vs.toNatClampNeg vc).2 = true then 0 else vs) (if ((if (upF (blkX wbl) (sideF (blkX wbl) xd vr vs.toNatClampNeg vc).1 vi.toNatClampNeg vr).2 = true then 0 else vi) - 1) < (-(wse 1)) then (-(wse 1)) else ((if (upF (blkX wbl) (sideF (blkX wbl) xd vr vs.toNatClampNeg vc).1 vi.toNatClampNeg vr).2 = true then 0 else vi) - 1)) :: oX7 w wb ws wc wr wl ww wf :: aI cI wb 10 wbl :: aI cI ws 3 wse :: X) H := hP
            have hD : va_D A (oX0 f ((sideF (blkX wbl) xd vr vs.toNatClampNeg vc).1) ((upF (blkX wbl) (sideF (blkX wbl) xd vr vs.toNatClampNeg vc).1 vi.toNatClampNeg vr).1) (nI (t + 1)) (if vo < ((upF (blkX wbl) (sideF (blkX wbl) xd vr vs.toNatClampNeg vc).1 vi.toNatClampNeg vr).1) then ((upF (blkX wbl) (sideF (blkX wbl) xd vr vs.toNatClampNeg vc).1 vi.toNatClampNeg vr).1) else vo) (bI (vm || (sideF (blkX wbl) xd vr vs.toNatClampNeg vc).2)) (if (sideF (blkX wbl) xd vr vs.toNatClampNeg vc).2 = true then 0 else vs) (if ((if (upF (blkX wbl) (sideF (blkX wbl) xd vr vs.toNatClampNeg vc).1 vi.toNatClampNeg vr).2 = true then 0 else vi) - 1) < (-(wse 1)) then (-(wse 1)) else ((if (upF (blkX wbl) (sideF (blkX wbl) xd vr vs.toNatClampNeg vc).1 vi.toNatClampNeg vr).2 = true then 0 else vi) - 1)) :: oX7 w wb ws wc wr wl ww wf :: aI cI wb 10 wbl :: aI cI ws 3 wse :: X) := hD
            refine lv_goto (tgt := 48) hx hb dX0_fly_138 (by decide) ?_
            exact ih_48 (t + 1) ((sideF (blkX wbl) xd vr vs.toNatClampNeg vc).1) ((upF (blkX wbl) (sideF (blkX wbl) xd vr vs.toNatClampNeg vc).1 vi.toNatClampNeg vr).1) (max2 vo (upF (blkX wbl) (sideF (blkX wbl) xd vr vs.toNatClampNeg vc).1 vi.toNatClampNeg vr).1) (vm || (sideF (blkX wbl) xd vr vs.toNatClampNeg vc).2) (if (sideF (blkX wbl) xd vr vs.toNatClampNeg vc).2 = true then 0 else vs) (max2 ((if (upF (blkX wbl) (sideF (blkX wbl) xd vr vs.toNatClampNeg vc).1 vi.toNatClampNeg vr).2 = true then 0 else vi) - 1) (-(wse 1))) false (by omega) (by omega) (by rw [if_neg Bool.false_ne_true, ← hv, show 100 - t = (100 - (t + 1)) + 1 by omega, flyF, if_pos (Int32.not_le.mp c_83), nI_1]) _ _ (hP) (hD) hS _ (lv_sub hl [0, 1, 2, 3, 4, 5, 6] rfl)
  exact loop_48 _ 0 xc xr xr false (xu + 1) (wse 0) false (Nat.lt_succ_self _) (Nat.zero_le _) (by rw [if_neg Bool.false_ne_true, Nat.sub_zero, nI_0]) _ _ hP hD hS _ (lv_sub hl [0, 1, 2, 3, 4, 5, 6] rfl)
