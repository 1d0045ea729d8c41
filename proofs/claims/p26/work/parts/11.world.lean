/-! what the class's small methods answer, as they are written -/
def atX (n : Nat) (f : Nat → Int32) (i : Int32) : Int32 := if i < 0 then -1 else if nI n ≤ i then -1 else f i.toNatClampNeg
def stX (n : Nat) (f : Nat → Int32) (i v : Int32) : Nat → Int32 := if i < 0 then f else if nI n ≤ i then f else upd f i.toNatClampNeg v
def blkX (bl : Nat → Int32) (x y : Int32) : Bool := if x < 0 then true else if 20 ≤ x then true else if y < 0 then true else if y < 10 then decide ((bl y.toNatClampNeg >>> (x &&& 31)) &&& 1 = 1) else true
def stB (B : Int32 → Int32 → Bool) (x y : Int32) : Bool := !B x y && B x (y - 1)
def grB (B : Int32 → Int32 → Bool) (x y d : Int32) : Int32 := if stB B x y = false then -1 else if stB B (x - 1 * d) y = false then 0 else if stB B (x - 2 * d) y = false then 1 else if stB B (x - 3 * d) y = false then 2 else 3
def tbX (bl : Nat → Int32) (x y : Int32) : Nat → Int32 := if y < 0 then bl else if 10 ≤ y then bl else upd bl y.toNatClampNeg (bl y.toNatClampNeg ^^^ ((1 : Int32) <<< (x &&& 31)))
def fallB (B : Int32 → Int32 → Bool) (x : Int32) : Nat → Int32 → Int32
  | 0, y => y
  | n + 1, y => if stB B x y = true then y else fallB B x n (y - 1)
theorem bt_c {b : Bool} (h : ¬ bI b = 0) : b = true := bI_nt.mp h
theorem bf_c {b : Bool} (h : bI b = 0) : b = false := bI_t.mp h
def bc1 (ix : Int32) : Int32 := ix - ((ix.toUInt32 >>> ((1 : Int32).toUInt32 &&& Int32.toUInt32 31)).toInt32 &&& 1431655765)
def bc2 (ix : Int32) : Int32 := (ix &&& 858993459) + ((ix.toUInt32 >>> ((2 : Int32).toUInt32 &&& Int32.toUInt32 31)).toInt32 &&& 858993459)
def bc3 (ix : Int32) : Int32 := (ix + (ix.toUInt32 >>> ((4 : Int32).toUInt32 &&& Int32.toUInt32 31)).toInt32) &&& 252645135
def bc4 (ix : Int32) : Int32 := ix + (ix.toUInt32 >>> ((8 : Int32).toUInt32 &&& Int32.toUInt32 31)).toInt32
def bc5 (ix : Int32) : Int32 := ix + (ix.toUInt32 >>> ((16 : Int32).toUInt32 &&& Int32.toUInt32 31)).toInt32
def bcX (ix : Int32) : Int32 := bc5 (bc4 (bc3 (bc2 (bc1 ix)))) &&& 63
set_option maxHeartbeats 4000000 in
set_option maxRecDepth 100000 in
theorem m_at (l : Launch) (D : va_G) (cI cZ cW cJ : ClassId) (A : Nat → Prop) (X : va_W) (na nn : Nat) (nf : Nat → Int32) (ix : Int32) (hnn : nn < 2 ^ 31) : Met l yX8_at wsX8_at ({ frames := 0, cells := 0, slots := 0, locals := 0 }) (va_Pc [.ref na, .int ix] (wd D (tyL cI cZ cW cJ) A (aI cI na nn nf :: X))) (va_Qi (fun (r : Int32) (u : Unit) => r = atX nn nf ix) (fun (u : Unit) t => wq D A (aI cI na nn nf :: X) t) A) 0 0 A := by
  refine Met.ofW (cc := cX8_at) (maxL := 2) (ret := (some .int)) (by decide) rfl ?_
  intro p e s m args below meth c s₁ B hml hv
  obtain ⟨rfl, hsz9, hP, hK, hD, hN⟩ := hv
  have hx := B.exec
  have hb := B.bytes
  have hr := B.returns
  have hts := atoms_spec (ws := wsX8_at) B.pre
  have hown : s.vm.findClass RX8 = some m.cls := findClass_of_methodNamed B.named
  have hlocks := B.notSynchronized
  have CF : CallFix p m c cX8_at 2 s _ wsX8_at RX8 := ⟨hx, hb, hml, hown, hts⟩
  have hA : ∀ q : Nat, s.heap.size ≤ q → A q := hsz9
  have hS : va_S A s.heap s.heap [] := va_S.rf
  have hl := lv_entry ([.ref na, .int ix]) (n := 2) (Nat.le_of_ble_eq_true rfl)
  rw [lg_entry_eq]
  generalize (lg_sl ([.ref na, .int ix]) ++ List.replicate (2 - (lg_sl ([.ref na, .int ix])).length) Slot.unset).toArray = ls at hl ⊢
  have hl : lv_has ls 2 [(0, .ref na), (1, .int ix)] := hl
  show W p l e ({ frames := 0, cells := 0, slots := 0, locals := 0 } : Room) s m (([.ref na, .int ix] : List Value).toArray) below meth c s.heap [] 0 0 (MQ below (va_Qi (fun (r : Int32) (u : Unit) => r = atX nn nf ix) (fun (u : Unit) t => wq D A (aI cI na nn nf :: X) t) A) (([.ref na, .int ix] : List Value).toArray) s 0 0 A) (F0 m 0 ls [])
  refine lv_iload_n hx hb dX8_at_0 rfl (lv_at hl 1 rfl) ?_
  refine lv_if_lt (tgt := 16) hx hb dX8_at_1 (by decide) (fun c_1 => ?_) (fun c_1 => ?_)
  · refine lv_iconst (v := (-1)) hx hb dX8_at_16 (by decide) ?_
    exact W.iret (v := (-1)) hx hb hr (fun t9 ht9 hW9 => ⟨⟨(-1), (), rfl, by simp [atX, c_1], by rw [ht9]; exact hP, hD⟩, hS.F ht9⟩) hS.2.2 dX8_at_17
  · refine lv_iload_n hx hb dX8_at_4 rfl (lv_at hl 1 rfl) ?_
    refine lv_aload_n hx hb dX8_at_5 rfl (lv_at hl 0 rfl) ?_
    refine va_alen (v := nI (nn)) hx hb hK hP 0 0 rfl rfl rfl dX8_at_6 ?_
    refine lv_icmp_ge (tgt := 16) hx hb dX8_at_7 (by decide) (fun c_7 => ?_) (fun c_7 => ?_)
    · refine lv_iconst (v := (-1)) hx hb dX8_at_16 (by decide) ?_
      exact W.iret (v := (-1)) hx hb hr (fun t9 ht9 hW9 => ⟨⟨(-1), (), rfl, by simp [atX, c_1, c_7], by rw [ht9]; exact hP, hD⟩, hS.F ht9⟩) hS.2.2 dX8_at_17
    · refine lv_aload_n hx hb dX8_at_10 rfl (lv_at hl 0 rfl) ?_
      refine lv_iload_n hx hb dX8_at_11 rfl (lv_at hl 1 rfl) ?_
      refine va_iald hx hb hK hP 0 0 rfl rfl (vp_in_d hnn c_1 c_7) dX8_at_12 ?_
      refine lv_goto (tgt := 17) hx hb dX8_at_13 (by decide) ?_
      exact W.iret (v := (nf ix.toNatClampNeg)) hx hb hr (fun t9 ht9 hW9 => ⟨⟨(nf ix.toNatClampNeg), (), rfl, by simp [atX, c_1, c_7], by rw [ht9]; exact hP, hD⟩, hS.F ht9⟩) hS.2.2 dX8_at_17
set_option maxHeartbeats 4000000 in
set_option maxRecDepth 100000 in
theorem m_store (l : Launch) (D : va_G) (cI cZ cW cJ : ClassId) (A : Nat → Prop) (X : va_W) (na nn : Nat) (nf : Nat → Int32) (ix iv : Int32) (hnn : nn < 2 ^ 31) : Met l yX8_store wsX8_store ({ frames := 0, cells := 0, slots := 0, locals := 0 }) (va_Pc [.ref na, .int ix, .int iv] (wd D (tyL cI cZ cW cJ) A (aI cI na nn nf :: X))) (va_Qv (fun (u : Nat → Int32) => u = stX nn nf ix iv) (fun (u : Nat → Int32) t => wq D A (aI cI na nn u :: X) t) A) 0 0 A := by
  refine Met.ofW (cc := cX8_store) (maxL := 3) (ret := none) (by decide) rfl ?_
  intro p e s m args below meth c s₁ B hml hv
  obtain ⟨rfl, hsz9, hP, hK, hD, hN⟩ := hv
  have hx := B.exec
  have hb := B.bytes
  have hr := B.returns
  have hts := atoms_spec (ws := wsX8_store) B.pre
  have hown : s.vm.findClass RX8 = some m.cls := findClass_of_methodNamed B.named
  have hlocks := B.notSynchronized
  have CF : CallFix p m c cX8_store 3 s _ wsX8_store RX8 := ⟨hx, hb, hml, hown, hts⟩
  have hA : ∀ q : Nat, s.heap.size ≤ q → A q := hsz9
  have hS : va_S A s.heap s.heap [] := va_S.rf
  have hl := lv_entry ([.ref na, .int ix, .int iv]) (n := 3) (Nat.le_of_ble_eq_true rfl)
  rw [lg_entry_eq]
  generalize (lg_sl ([.ref na, .int ix, .int iv]) ++ List.replicate (3 - (lg_sl ([.ref na, .int ix, .int iv])).length) Slot.unset).toArray = ls at hl ⊢
  have hl : lv_has ls 3 [(0, .ref na), (1, .int ix), (2, .int iv)] := hl
  show W p l e ({ frames := 0, cells := 0, slots := 0, locals := 0 } : Room) s m (([.ref na, .int ix, .int iv] : List Value).toArray) below meth c s.heap [] 0 0 (MQ below (va_Qv (fun (u : Nat → Int32) => u = stX nn nf ix iv) (fun (u : Nat → Int32) t => wq D A (aI cI na nn u :: X) t) A) (([.ref na, .int ix, .int iv] : List Value).toArray) s 0 0 A) (F0 m 0 ls [])
  refine lv_iload_n hx hb dX8_store_0 rfl (lv_at hl 1 rfl) ?_
  refine lv_if_lt (tgt := 14) hx hb dX8_store_1 (by decide) (fun c_1 => ?_) (fun c_1 => ?_)
  · exact W.vret hx hb hr (fun t9 ht9 hW9 => ⟨⟨nf, rfl, by simp [stX, c_1], by rw [ht9]; exact hP, hD⟩, hS.F ht9⟩) hS.2.2 dX8_store_14
  · refine lv_iload_n hx hb dX8_store_4 rfl (lv_at hl 1 rfl) ?_
    refine lv_aload_n hx hb dX8_store_5 rfl (lv_at hl 0 rfl) ?_
    refine va_alen (v := nI (nn)) hx hb hK hP 0 0 rfl rfl rfl dX8_store_6 ?_
    refine lv_icmp_ge (tgt := 14) hx hb dX8_store_7 (by decide) (fun c_7 => ?_) (fun c_7 => ?_)
    · exact W.vret hx hb hr (fun t9 ht9 hW9 => ⟨⟨nf, rfl, by simp [stX, c_1, c_7], by rw [ht9]; exact hP, hD⟩, hS.F ht9⟩) hS.2.2 dX8_store_14
    · refine lv_aload_n hx hb dX8_store_10 rfl (lv_at hl 0 rfl) ?_
      refine lv_iload_n hx hb dX8_store_11 rfl (lv_at hl 1 rfl) ?_
      refine lv_iload_n hx hb dX8_store_12 rfl (lv_at hl 2 rfl) ?_
      refine va_iast hx hb hK hP hD hS 0 0 rfl rfl (vp_in_d hnn c_1 c_7) dX8_store_13 (fun H locs hP hD hS => ?_)
      have hP : va_P D vwCl (aI cI na nn (upd nf ix.toNatClampNeg iv) :: X) H := hP
      have hD : va_D A (aI cI na nn (upd nf ix.toNatClampNeg iv) :: X) := hD
      exact W.vret hx hb hr (fun t9 ht9 hW9 => ⟨⟨(upd nf ix.toNatClampNeg iv), rfl, by simp [stX, c_1, c_7], by rw [ht9]; exact hP, hD⟩, hS.F ht9⟩) hS.2.2 dX8_store_14
set_option maxHeartbeats 4000000 in
set_option maxRecDepth 100000 in
theorem m_isBlock (l : Launch) (D : va_G) (cI cZ cW cJ : ClassId) (A : Nat → Prop) (X : va_W) (w wb ws : Nat) (wc wr wl ww wf : Int32) (wbl : Nat → Int32) (xc xr : Int32) : Met l yX7_isBlock wsX7_isBlock ({ frames := 0, cells := 0, slots := 0, locals := 0 }) (va_Pc [.ref w, .int xc, .int xr] (wd D (tyL cI cZ cW cJ) A (oX7 w wb ws wc wr wl ww wf :: aI cI wb 10 wbl :: X))) (va_Qi (fun (r : Int32) (u : Unit) => r = bI (blkX wbl xc xr)) (fun (u : Unit) t => wq D A (oX7 w wb ws wc wr wl ww wf :: aI cI wb 10 wbl :: X) t) A) 0 0 A := by
  refine Met.ofW (cc := cX7_isBlock) (maxL := 3) (ret := (some .boolean)) (by decide) rfl ?_
  intro p e s m args below meth c s₁ B hml hv
  obtain ⟨rfl, hsz9, hP, hK, hD, hN⟩ := hv
  have hx := B.exec
  have hb := B.bytes
  have hr := B.returns
  have hts := atoms_spec (ws := wsX7_isBlock) B.pre
  have hown : s.vm.findClass RX7 = some m.cls := findClass_of_methodNamed B.named
  have hlocks := B.notSynchronized
  have CF : CallFix p m c cX7_isBlock 3 s _ wsX7_isBlock RX7 := ⟨hx, hb, hml, hown, hts⟩
  have hA : ∀ q : Nat, s.heap.size ≤ q → A q := hsz9
  have hS : va_S A s.heap s.heap [] := va_S.rf
  have hiX7 : ∀ w ∈ u_ws RX7 TX7 7, w ∈ wsX7_isBlock := fun _ h => List.mem_cons_of_mem _ (List.mem_append_right _ (h))
  have hl := lv_entry ([.ref w, .int xc, .int xr]) (n := 3) (Nat.le_of_ble_eq_true rfl)
  rw [lg_entry_eq]
  generalize (lg_sl ([.ref w, .int xc, .int xr]) ++ List.replicate (3 - (lg_sl ([.ref w, .int xc, .int xr])).length) Slot.unset).toArray = ls at hl ⊢
  have hl : lv_has ls 3 [(0, .ref w), (1, .int xc), (2, .int xr)] := hl
  show W p l e ({ frames := 0, cells := 0, slots := 0, locals := 0 } : Room) s m (([.ref w, .int xc, .int xr] : List Value).toArray) below meth c s.heap [] 0 0 (MQ below (va_Qi (fun (r : Int32) (u : Unit) => r = bI (blkX wbl xc xr)) (fun (u : Unit) t => wq D A (oX7 w wb ws wc wr wl ww wf :: aI cI wb 10 wbl :: X) t) A) (([.ref w, .int xc, .int xr] : List Value).toArray) s 0 0 A) (F0 m 0 ls [])
  refine lv_iload_n hx hb dX7_isBlock_0 rfl (lv_at hl 1 rfl) ?_
  refine lv_if_lt (tgt := 23) hx hb dX7_isBlock_1 (by decide) (fun c_1 => ?_) (fun c_1 => ?_)
  · refine lv_iconst (v := 1) hx hb dX7_isBlock_23 (by decide) ?_
    exact W.zret (v := 1) (ty := .boolean) hx hb hr (rfl) (fun t9 ht9 hW9 => ⟨⟨1, (), rfl, by simp [blkX, bI, c_1], by rw [ht9]; exact hP, hD⟩, hS.F ht9⟩) hS.2.2 dX7_isBlock_24
  · refine lv_iload_n hx hb dX7_isBlock_4 rfl (lv_at hl 1 rfl) ?_
    refine lv_bipush (v := 20) hx hb dX7_isBlock_5 (by decide) ?_
    refine lv_icmp_ge (tgt := 23) hx hb dX7_isBlock_7 (by decide) (fun c_7 => ?_) (fun c_7 => ?_)
    · refine lv_iconst (v := 1) hx hb dX7_isBlock_23 (by decide) ?_
      exact W.zret (v := 1) (ty := .boolean) hx hb hr (rfl) (fun t9 ht9 hW9 => ⟨⟨1, (), rfl, by simp [blkX, bI, c_1, c_7], by rw [ht9]; exact hP, hD⟩, hS.F ht9⟩) hS.2.2 dX7_isBlock_24
    · refine lv_iload_n hx hb dX7_isBlock_10 rfl (lv_at hl 2 rfl) ?_
      refine lv_if_lt (tgt := 23) hx hb dX7_isBlock_11 (by decide) (fun c_11 => ?_) (fun c_11 => ?_)
      · refine lv_iconst (v := 1) hx hb dX7_isBlock_23 (by decide) ?_
        exact W.zret (v := 1) (ty := .boolean) hx hb hr (rfl) (fun t9 ht9 hW9 => ⟨⟨1, (), rfl, by simp [blkX, bI, c_1, c_7, c_11], by rw [ht9]; exact hP, hD⟩, hS.F ht9⟩) hS.2.2 dX7_isBlock_24
      · refine lv_iload_n hx hb dX7_isBlock_14 rfl (lv_at hl 2 rfl) ?_
        refine lv_aload_n hx hb dX7_isBlock_15 rfl (lv_at hl 0 rfl) ?_
        refine va_get (D := D) (ci := 7) (v := .ref wb) (C := RX7) (T := TX7) (N := 7) hx hb hts hiX7 hown hK hP 0 rfl rfl 0 (by decide) (hts (.fieldLink RX7 9 "LedgeLeaps$World" "blocks" "[I") (List.mem_of_getElem? (i := 1) rfl)) (fun _ h9 => h9) rfl dX7_isBlock_16 ?_
        refine va_alen (v := 10) hx hb hK hP 1 0 rfl rfl rfl dX7_isBlock_19 ?_
        refine lv_icmp_lt (tgt := 25) hx hb dX7_isBlock_20 (by decide) (fun c_20 => ?_) (fun c_20 => ?_)
        · refine lv_aload_n hx hb dX7_isBlock_25 rfl (lv_at hl 0 rfl) ?_
          refine va_get (D := D) (ci := 7) (v := .ref wb) (C := RX7) (T := TX7) (N := 7) hx hb hts hiX7 hown hK hP 0 rfl rfl 0 (by decide) (hts (.fieldLink RX7 9 "LedgeLeaps$World" "blocks" "[I") (List.mem_of_getElem? (i := 1) rfl)) (fun _ h9 => h9) rfl dX7_isBlock_26 ?_
          refine lv_iload_n hx hb dX7_isBlock_29 rfl (lv_at hl 2 rfl) ?_
          refine va_iald hx hb hK hP 1 0 rfl rfl (vp_in_c (by decide) c_11 c_20) dX7_isBlock_30 ?_
          refine lv_iload_n hx hb dX7_isBlock_31 rfl (lv_at hl 1 rfl) ?_
          refine lv_ishr hx hb dX7_isBlock_32 ?_
          refine lv_iconst (v := 1) hx hb dX7_isBlock_33 (by decide) ?_
          refine lv_iand hx hb dX7_isBlock_34 ?_
          refine lv_iconst (v := 1) hx hb dX7_isBlock_35 (by decide) ?_
          refine lv_icmp_ne (tgt := 43) hx hb dX7_isBlock_36 (by decide) (fun c_36 => ?_) (fun c_36 => ?_)
          · refine lv_iconst (v := 0) hx hb dX7_isBlock_43 (by decide) ?_
            exact W.zret (v := 0) (ty := .boolean) hx hb hr (rfl) (fun t9 ht9 hW9 => ⟨⟨0, (), rfl, by simp [blkX, bI, c_1, c_7, c_11, c_20, c_36], by rw [ht9]; exact hP, hD⟩, hS.F ht9⟩) hS.2.2 dX7_isBlock_44
          · refine lv_iconst (v := 1) hx hb dX7_isBlock_39 (by decide) ?_
            refine lv_goto (tgt := 44) hx hb dX7_isBlock_40 (by decide) ?_
            exact W.zret (v := 1) (ty := .boolean) hx hb hr (rfl) (fun t9 ht9 hW9 => ⟨⟨1, (), rfl, by simp [blkX, bI, c_1, c_7, c_11, c_20, c_36], by rw [ht9]; exact hP, hD⟩, hS.F ht9⟩) hS.2.2 dX7_isBlock_44
        · refine lv_iconst (v := 1) hx hb dX7_isBlock_23 (by decide) ?_
          exact W.zret (v := 1) (ty := .boolean) hx hb hr (rfl) (fun t9 ht9 hW9 => ⟨⟨1, (), rfl, by simp [blkX, bI, c_1, c_7, c_11, c_20], by rw [ht9]; exact hP, hD⟩, hS.F ht9⟩) hS.2.2 dX7_isBlock_24
set_option maxHeartbeats 4000000 in
set_option maxRecDepth 100000 in
theorem m_canStand (l : Launch) (D : va_G) (cI cZ cW cJ : ClassId) (A : Nat → Prop) (X : va_W) (w wb ws : Nat) (wc wr wl ww wf : Int32) (wbl : Nat → Int32) (xc xr : Int32) : Met l yX7_canStand wsX7_canStand ({ frames := 1, cells := 0, slots := 0, locals := 22 }) (va_Pc [.ref w, .int xc, .int xr] (wd D (tyL cI cZ cW cJ) A (oX7 w wb ws wc wr wl ww wf :: aI cI wb 10 wbl :: X))) (va_Qi (fun (r : Int32) (u : Unit) => r = bI (stB (blkX wbl) xc xr)) (fun (u : Unit) t => wq D A (oX7 w wb ws wc wr wl ww wf :: aI cI wb 10 wbl :: X) t) A) 0 0 A := by
  refine Met.ofW (cc := cX7_canStand) (maxL := 3) (ret := (some .boolean)) (by decide) rfl ?_
  intro p e s m args below meth c s₁ B hml hv
  obtain ⟨rfl, hsz9, hP, hK, hD, hN⟩ := hv
  have hx := B.exec
  have hb := B.bytes
  have hr := B.returns
  have hts := atoms_spec (ws := wsX7_canStand) B.pre
  have hown : s.vm.findClass RX7 = some m.cls := findClass_of_methodNamed B.named
  have hlocks := B.notSynchronized
  have CF : CallFix p m c cX7_canStand 3 s _ wsX7_canStand RX7 := ⟨hx, hb, hml, hown, hts⟩
  have hA : ∀ q : Nat, s.heap.size ≤ q → A q := hsz9
  have hS : va_S A s.heap s.heap [] := va_S.rf
  have hl := lv_entry ([.ref w, .int xc, .int xr]) (n := 3) (Nat.le_of_ble_eq_true rfl)
  rw [lg_entry_eq]
  generalize (lg_sl ([.ref w, .int xc, .int xr]) ++ List.replicate (3 - (lg_sl ([.ref w, .int xc, .int xr])).length) Slot.unset).toArray = ls at hl ⊢
  have hl : lv_has ls 3 [(0, .ref w), (1, .int xc), (2, .int xr)] := hl
  show W p l e ({ frames := 1, cells := 0, slots := 0, locals := 22 } : Room) s m (([.ref w, .int xc, .int xr] : List Value).toArray) below meth c s.heap [] 0 0 (MQ below (va_Qi (fun (r : Int32) (u : Unit) => r = bI (stB (blkX wbl) xc xr)) (fun (u : Unit) t => wq D A (oX7 w wb ws wc wr wl ww wf :: aI cI wb 10 wbl :: X) t) A) (([.ref w, .int xc, .int xr] : List Value).toArray) s 0 0 A) (F0 m 0 ls [])
  refine lv_aload_n hx hb dX7_canStand_0 rfl (lv_at hl 0 rfl) ?_
  refine lv_iload_n hx hb dX7_canStand_1 rfl (lv_at hl 1 rfl) ?_
  refine lv_iload_n hx hb dX7_canStand_2 rfl (lv_at hl 2 rfl) ?_
  refine cV_i CF hK hN hA hS (cut_of 2 [0, 1] hP hD rfl rfl rfl) (m_isBlock l D cI cZ cW cJ A (X) w wb ws wc wr wl ww wf wbl xc xr) (cwV 2 hts gX7_canStand_X7_isBlock rfl rfl rfl (by decide +kernel) ⟨Nat.le_of_ble_eq_true rfl, Nat.le_of_ble_eq_true rfl⟩) (As := [.int xc, .int xr]) (rest := []) (ci := 7) (q0 := 0) rfl rfl rfl hl.1 rfl (Nat.le_of_ble_eq_true rfl) dX7_canStand_3 ⟨Nat.le_of_ble_eq_true rfl, Nat.le_of_ble_eq_true rfl⟩ (fun r_3 _ H locs hq hP hD hS => ?_)
  have hq : r_3 = bI (blkX wbl xc xr) := hq
  subst hq
  have hP : va_P D vwCl (oX7 w wb ws wc wr wl ww wf :: aI cI wb 10 wbl :: X) H := pm_P hP 2 [0, 1] rfl
  have hD : va_D A (oX7 w wb ws wc wr wl ww wf :: aI cI wb 10 wbl :: X) := pm_D hD 2 [0, 1] rfl rfl rfl
  refine lv_if_ne (tgt := 24) hx hb dX7_canStand_6 (by decide) (fun c_6 => ?_) (fun c_6 => ?_)
  · refine lv_iconst (v := 0) hx hb dX7_canStand_24 (by decide) ?_
    exact W.zret (v := 0) (ty := .boolean) hx hb hr (rfl) (fun t9 ht9 hW9 => ⟨⟨0, (), rfl, by simp only [bI_t, bI_nt, Bool.not_eq_true, Bool.not_eq_false] at c_6; simp [stB, bI, c_6], by rw [ht9]; exact hP, hD⟩, hS.F ht9⟩) hS.2.2 dX7_canStand_25
  · refine lv_aload_n hx hb dX7_canStand_9 rfl (lv_at hl 0 rfl) ?_
    refine lv_iload_n hx hb dX7_canStand_10 rfl (lv_at hl 1 rfl) ?_
    refine lv_iload_n hx hb dX7_canStand_11 rfl (lv_at hl 2 rfl) ?_
    refine lv_iconst (v := 1) hx hb dX7_canStand_12 (by decide) ?_
    refine lv_isub hx hb dX7_canStand_13 ?_
    refine cV_i CF hK hN hA hS (cut_of 2 [0, 1] hP hD rfl rfl rfl) (m_isBlock l D cI cZ cW cJ A (X) w wb ws wc wr wl ww wf wbl xc (xr - 1)) (cwV 2 hts gX7_canStand_X7_isBlock rfl rfl rfl (by decide +kernel) ⟨Nat.le_of_ble_eq_true rfl, Nat.le_of_ble_eq_true rfl⟩) (As := [.int xc, .int (xr - 1)]) (rest := []) (ci := 7) (q0 := 0) rfl rfl rfl hl.1 rfl (Nat.le_of_ble_eq_true rfl) dX7_canStand_14 ⟨Nat.le_of_ble_eq_true rfl, Nat.le_of_ble_eq_true rfl⟩ (fun r_14 _ H locs hq hP hD hS => ?_)
    have hq : r_14 = bI (blkX wbl xc (xr - 1)) := hq
    subst hq
    have hP : va_P D vwCl (oX7 w wb ws wc wr wl ww wf :: aI cI wb 10 wbl :: X) H := pm_P hP 2 [0, 1] rfl
    have hD : va_D A (oX7 w wb ws wc wr wl ww wf :: aI cI wb 10 wbl :: X) := pm_D hD 2 [0, 1] rfl rfl rfl
    refine lv_if_eq (tgt := 24) hx hb dX7_canStand_17 (by decide) (fun c_17 => ?_) (fun c_17 => ?_)
    · refine lv_iconst (v := 0) hx hb dX7_canStand_24 (by decide) ?_
      exact W.zret (v := 0) (ty := .boolean) hx hb hr (rfl) (fun t9 ht9 hW9 => ⟨⟨0, (), rfl, by simp only [bI_t, bI_nt, Bool.not_eq_true, Bool.not_eq_false] at c_6 c_17; simp [stB, bI, c_6, c_17], by rw [ht9]; exact hP, hD⟩, hS.F ht9⟩) hS.2.2 dX7_canStand_25
    · refine lv_iconst (v := 1) hx hb dX7_canStand_20 (by decide) ?_
      refine lv_goto (tgt := 25) hx hb dX7_canStand_21 (by decide) ?_
      exact W.zret (v := 1) (ty := .boolean) hx hb hr (rfl) (fun t9 ht9 hW9 => ⟨⟨1, (), rfl, by simp only [bI_t, bI_nt, Bool.not_eq_true, Bool.not_eq_false] at c_6 c_17; simp [stB, bI, c_6, c_17], by rw [ht9]; exact hP, hD⟩, hS.F ht9⟩) hS.2.2 dX7_canStand_25
set_option maxHeartbeats 4000000 in
set_option maxRecDepth 100000 in
theorem m_greatestRunUp (l : Launch) (D : va_G) (cI cZ cW cJ : ClassId) (A : Nat → Prop) (X : va_W) (w wb ws : Nat) (wc wr wl ww wf : Int32) (wbl : Nat → Int32) (xc xr xd : Int32) : Met l yX7_greatestRunUp wsX7_greatestRunUp ({ frames := 2, cells := 0, slots := 0, locals := 44 }) (va_Pc [.ref w, .int xc, .int xr, .int xd] (wd D (tyL cI cZ cW cJ) A (oX7 w wb ws wc wr wl ww wf :: aI cI wb 10 wbl :: X))) (va_Qi (fun (r : Int32) (u : Unit) => r = grB (blkX wbl) xc xr xd) (fun (u : Unit) t => wq D A (oX7 w wb ws wc wr wl ww wf :: aI cI wb 10 wbl :: X) t) A) 0 0 A := by
  refine Met.ofW (cc := cX7_greatestRunUp) (maxL := 6) (ret := (some .int)) (by decide) rfl ?_
  intro p e s m args below meth c s₁ B hml hv
  obtain ⟨rfl, hsz9, hP, hK, hD, hN⟩ := hv
  have hx := B.exec
  have hb := B.bytes
  have hr := B.returns
  have hts := atoms_spec (ws := wsX7_greatestRunUp) B.pre
  have hown : s.vm.findClass RX7 = some m.cls := findClass_of_methodNamed B.named
  have hlocks := B.notSynchronized
  have CF : CallFix p m c cX7_greatestRunUp 6 s _ wsX7_greatestRunUp RX7 := ⟨hx, hb, hml, hown, hts⟩
  have hA : ∀ q : Nat, s.heap.size ≤ q → A q := hsz9
  have hS : va_S A s.heap s.heap [] := va_S.rf
  have hl := lv_entry ([.ref w, .int xc, .int xr, .int xd]) (n := 6) (Nat.le_of_ble_eq_true rfl)
  rw [lg_entry_eq]
  generalize (lg_sl ([.ref w, .int xc, .int xr, .int xd]) ++ List.replicate (6 - (lg_sl ([.ref w, .int xc, .int xr, .int xd])).length) Slot.unset).toArray = ls at hl ⊢
  have hl : lv_has ls 6 [(0, .ref w), (1, .int xc), (2, .int xr), (3, .int xd)] := hl
  show W p l e ({ frames := 2, cells := 0, slots := 0, locals := 44 } : Room) s m (([.ref w, .int xc, .int xr, .int xd] : List Value).toArray) below meth c s.heap [] 0 0 (MQ below (va_Qi (fun (r : Int32) (u : Unit) => r = grB (blkX wbl) xc xr xd) (fun (u : Unit) t => wq D A (oX7 w wb ws wc wr wl ww wf :: aI cI wb 10 wbl :: X) t) A) (([.ref w, .int xc, .int xr, .int xd] : List Value).toArray) s 0 0 A) (F0 m 0 ls [])
  refine lv_aload_n hx hb dX7_greatestRunUp_0 rfl (lv_at hl 0 rfl) ?_
  refine lv_iload_n hx hb dX7_greatestRunUp_1 rfl (lv_at hl 1 rfl) ?_
  refine lv_iload_n hx hb dX7_greatestRunUp_2 rfl (lv_at hl 2 rfl) ?_
  refine cV_i CF hK hN hA hS (cut_of 2 [0, 1] hP hD rfl rfl rfl) (m_canStand l D cI cZ cW cJ A (X) w wb ws wc wr wl ww wf wbl xc xr) (cwV 2 hts gX7_greatestRunUp_X7_canStand rfl rfl rfl (by decide +kernel) ⟨Nat.le_of_ble_eq_true rfl, Nat.le_of_ble_eq_true rfl⟩) (As := [.int xc, .int xr]) (rest := []) (ci := 7) (q0 := 0) rfl rfl rfl hl.1 rfl (Nat.le_of_ble_eq_true rfl) dX7_greatestRunUp_3 ⟨Nat.le_of_ble_eq_true rfl, Nat.le_of_ble_eq_true rfl⟩ (fun r_3 _ H locs hq hP hD hS => ?_)
  have hq : r_3 = bI (stB (blkX wbl) xc xr) := hq
  subst hq
  have hP : va_P D vwCl (oX7 w wb ws wc wr wl ww wf :: aI cI wb 10 wbl :: X) H := pm_P hP 2 [0, 1] rfl
  have hD : va_D A (oX7 w wb ws wc wr wl ww wf :: aI cI wb 10 wbl :: X) := pm_D hD 2 [0, 1] rfl rfl rfl
  refine lv_if_ne (tgt := 11) hx hb dX7_greatestRunUp_6 (by decide) (fun c_6 => ?_) (fun c_6 => ?_)
  · refine lv_iconst (v := 0) hx hb dX7_greatestRunUp_11 (by decide) ?_
    refine lv_istore (lv' := [(4, .int 0), (0, .ref w), (1, .int xc), (2, .int xr), (3, .int xd)]) hx hb dX7_greatestRunUp_12 hl (by decide) rfl (fun ls hl => ?_)
    refine lv_iconst (v := 1) hx hb dX7_greatestRunUp_14 (by decide) ?_
    refine lv_istore (lv' := [(5, .int 1), (4, .int 0), (0, .ref w), (1, .int xc), (2, .int xr), (3, .int xd)]) hx hb dX7_greatestRunUp_15 hl (by decide) rfl (fun ls hl => ?_)
    refine lv_iload hx hb dX7_greatestRunUp_17 (lv_at hl 0 rfl) ?_
    refine lv_iconst (v := 3) hx hb dX7_greatestRunUp_19 (by decide) ?_
    have c_20 : ¬ (3 : Int32) < 1 := by decide
    refine lv_icmp_gt (tgt := 47) hx hb dX7_greatestRunUp_20 (by decide) (fun q => absurd q c_20) (fun _ => ?_)
    refine lv_aload_n hx hb dX7_greatestRunUp_23 rfl (lv_at hl 2 rfl) ?_
    refine lv_iload_n hx hb dX7_greatestRunUp_24 rfl (lv_at hl 3 rfl) ?_
    refine lv_iload hx hb dX7_greatestRunUp_25 (lv_at hl 0 rfl) ?_
    refine lv_iload_n hx hb dX7_greatestRunUp_27 rfl (lv_at hl 5 rfl) ?_
    refine lv_imul hx hb dX7_greatestRunUp_28 ?_
    refine lv_isub hx hb dX7_greatestRunUp_29 ?_
    refine lv_iload_n hx hb dX7_greatestRunUp_30 rfl (lv_at hl 4 rfl) ?_
    refine cV_i CF hK hN hA hS (cut_of 2 [0, 1] hP hD rfl rfl rfl) (m_canStand l D cI cZ cW cJ A (X) w wb ws wc wr wl ww wf wbl (xc - (1 * xd)) xr) (cwV 2 hts gX7_greatestRunUp_X7_canStand rfl rfl rfl (by decide +kernel) ⟨Nat.le_of_ble_eq_true rfl, Nat.le_of_ble_eq_true rfl⟩) (As := [.int (xc - (1 * xd)), .int xr]) (rest := []) (ci := 7) (q0 := 0) rfl rfl rfl hl.1 rfl (Nat.le_of_ble_eq_true rfl) dX7_greatestRunUp_31 ⟨Nat.le_of_ble_eq_true rfl, Nat.le_of_ble_eq_true rfl⟩ (fun r_31 _ H locs hq hP hD hS => ?_)
    have hq : r_31 = bI (stB (blkX wbl) (xc - (1 * xd)) xr) := hq
    subst hq
    have hP : va_P D vwCl (oX7 w wb ws wc wr wl ww wf :: aI cI wb 10 wbl :: X) H := pm_P hP 2 [0, 1] rfl
    have hD : va_D A (oX7 w wb ws wc wr wl ww wf :: aI cI wb 10 wbl :: X) := pm_D hD 2 [0, 1] rfl rfl rfl
    refine lv_if_eq (tgt := 47) hx hb dX7_greatestRunUp_34 (by decide) (fun c_34 => ?_) (fun c_34 => ?_)
    · refine lv_iload hx hb dX7_greatestRunUp_47 (lv_at hl 1 rfl) ?_
      exact W.iret (v := 0) hx hb hr (fun t9 ht9 hW9 => ⟨⟨0, (), rfl, by simp only [bI_t, bI_nt, Bool.not_eq_true, Bool.not_eq_false] at c_6 c_34; simp only [grB, c_6, c_34, reduceCtorEq, if_true, if_false], by rw [ht9]; exact hP, hD⟩, hS.F ht9⟩) hS.2.2 dX7_greatestRunUp_49
    · refine lv_iload hx hb dX7_greatestRunUp_37 (lv_at hl 0 rfl) ?_
      refine lv_istore (lv' := [(4, .int 1), (5, .int 1), (0, .ref w), (1, .int xc), (2, .int xr), (3, .int xd)]) hx hb dX7_greatestRunUp_39 hl (by decide) rfl (fun ls hl => ?_)
      refine lv_iinc (v := 2) (lv' := [(5, .int 2), (4, .int 1), (0, .ref w), (1, .int xc), (2, .int xr), (3, .int xd)]) hx hb dX7_greatestRunUp_41 hl (k := 1) rfl (by decide) (by decide) rfl (fun ls hl => ?_)
      refine lv_goto (tgt := 17) hx hb dX7_greatestRunUp_44 (by decide) ?_
      refine lv_iload hx hb dX7_greatestRunUp_17 (lv_at hl 0 rfl) ?_
      refine lv_iconst (v := 3) hx hb dX7_greatestRunUp_19 (by decide) ?_
      have c_20 : ¬ (3 : Int32) < 2 := by decide
      refine lv_icmp_gt (tgt := 47) hx hb dX7_greatestRunUp_20 (by decide) (fun q => absurd q c_20) (fun _ => ?_)
      refine lv_aload_n hx hb dX7_greatestRunUp_23 rfl (lv_at hl 2 rfl) ?_
      refine lv_iload_n hx hb dX7_greatestRunUp_24 rfl (lv_at hl 3 rfl) ?_
      refine lv_iload hx hb dX7_greatestRunUp_25 (lv_at hl 0 rfl) ?_
      refine lv_iload_n hx hb dX7_greatestRunUp_27 rfl (lv_at hl 5 rfl) ?_
      refine lv_imul hx hb dX7_greatestRunUp_28 ?_
      refine lv_isub hx hb dX7_greatestRunUp_29 ?_
      refine lv_iload_n hx hb dX7_greatestRunUp_30 rfl (lv_at hl 4 rfl) ?_
      refine cV_i CF hK hN hA hS (cut_of 2 [0, 1] hP hD rfl rfl rfl) (m_canStand l D cI cZ cW cJ A (X) w wb ws wc wr wl ww wf wbl (xc - (2 * xd)) xr) (cwV 2 hts gX7_greatestRunUp_X7_canStand rfl rfl rfl (by decide +kernel) ⟨Nat.le_of_ble_eq_true rfl, Nat.le_of_ble_eq_true rfl⟩) (As := [.int (xc - (2 * xd)), .int xr]) (rest := []) (ci := 7) (q0 := 0) rfl rfl rfl hl.1 rfl (Nat.le_of_ble_eq_true rfl) dX7_greatestRunUp_31 ⟨Nat.le_of_ble_eq_true rfl, Nat.le_of_ble_eq_true rfl⟩ (fun r_31 _ H locs hq hP hD hS => ?_)
      have hq : r_31 = bI (stB (blkX wbl) (xc - (2 * xd)) xr) := hq
      subst hq
      have hP : va_P D vwCl (oX7 w wb ws wc wr wl ww wf :: aI cI wb 10 wbl :: X) H := pm_P hP 2 [0, 1] rfl
      have hD : va_D A (oX7 w wb ws wc wr wl ww wf :: aI cI wb 10 wbl :: X) := pm_D hD 2 [0, 1] rfl rfl rfl
      refine lv_if_eq (tgt := 47) hx hb dX7_greatestRunUp_34 (by decide) (fun c_34' => ?_) (fun c_34' => ?_)
      · refine lv_iload hx hb dX7_greatestRunUp_47 (lv_at hl 1 rfl) ?_
        exact W.iret (v := 1) hx hb hr (fun t9 ht9 hW9 => ⟨⟨1, (), rfl, by simp only [bI_t, bI_nt, Bool.not_eq_true, Bool.not_eq_false] at c_6 c_34 c_34'; simp only [grB, c_6, c_34, c_34', reduceCtorEq, if_true, if_false], by rw [ht9]; exact hP, hD⟩, hS.F ht9⟩) hS.2.2 dX7_greatestRunUp_49
      · refine lv_iload hx hb dX7_greatestRunUp_37 (lv_at hl 0 rfl) ?_
        refine lv_istore (lv' := [(4, .int 2), (5, .int 2), (0, .ref w), (1, .int xc), (2, .int xr), (3, .int xd)]) hx hb dX7_greatestRunUp_39 hl (by decide) rfl (fun ls hl => ?_)
        refine lv_iinc (v := 3) (lv' := [(5, .int 3), (4, .int 2), (0, .ref w), (1, .int xc), (2, .int xr), (3, .int xd)]) hx hb dX7_greatestRunUp_41 hl (k := 1) rfl (by decide) (by decide) rfl (fun ls hl => ?_)
        refine lv_goto (tgt := 17) hx hb dX7_greatestRunUp_44 (by decide) ?_
        refine lv_iload hx hb dX7_greatestRunUp_17 (lv_at hl 0 rfl) ?_
        refine lv_iconst (v := 3) hx hb dX7_greatestRunUp_19 (by decide) ?_
        have c_20 : ¬ (3 : Int32) < 3 := by decide
        refine lv_icmp_gt (tgt := 47) hx hb dX7_greatestRunUp_20 (by decide) (fun q => absurd q c_20) (fun _ => ?_)
        refine lv_aload_n hx hb dX7_greatestRunUp_23 rfl (lv_at hl 2 rfl) ?_
        refine lv_iload_n hx hb dX7_greatestRunUp_24 rfl (lv_at hl 3 rfl) ?_
        refine lv_iload hx hb dX7_greatestRunUp_25 (lv_at hl 0 rfl) ?_
        refine lv_iload_n hx hb dX7_greatestRunUp_27 rfl (lv_at hl 5 rfl) ?_
        refine lv_imul hx hb dX7_greatestRunUp_28 ?_
        refine lv_isub hx hb dX7_greatestRunUp_29 ?_
        refine lv_iload_n hx hb dX7_greatestRunUp_30 rfl (lv_at hl 4 rfl) ?_
        refine cV_i CF hK hN hA hS (cut_of 2 [0, 1] hP hD rfl rfl rfl) (m_canStand l D cI cZ cW cJ A (X) w wb ws wc wr wl ww wf wbl (xc - (3 * xd)) xr) (cwV 2 hts gX7_greatestRunUp_X7_canStand rfl rfl rfl (by decide +kernel) ⟨Nat.le_of_ble_eq_true rfl, Nat.le_of_ble_eq_true rfl⟩) (As := [.int (xc - (3 * xd)), .int xr]) (rest := []) (ci := 7) (q0 := 0) rfl rfl rfl hl.1 rfl (Nat.le_of_ble_eq_true rfl) dX7_greatestRunUp_31 ⟨Nat.le_of_ble_eq_true rfl, Nat.le_of_ble_eq_true rfl⟩ (fun r_31 _ H locs hq hP hD hS => ?_)
        have hq : r_31 = bI (stB (blkX wbl) (xc - (3 * xd)) xr) := hq
        subst hq
        have hP : va_P D vwCl (oX7 w wb ws wc wr wl ww wf :: aI cI wb 10 wbl :: X) H := pm_P hP 2 [0, 1] rfl
        have hD : va_D A (oX7 w wb ws wc wr wl ww wf :: aI cI wb 10 wbl :: X) := pm_D hD 2 [0, 1] rfl rfl rfl
        refine lv_if_eq (tgt := 47) hx hb dX7_greatestRunUp_34 (by decide) (fun c_34'' => ?_) (fun c_34'' => ?_)
        · refine lv_iload hx hb dX7_greatestRunUp_47 (lv_at hl 1 rfl) ?_
          exact W.iret (v := 2) hx hb hr (fun t9 ht9 hW9 => ⟨⟨2, (), rfl, by simp only [bI_t, bI_nt, Bool.not_eq_true, Bool.not_eq_false] at c_6 c_34 c_34' c_34''; simp only [grB, c_6, c_34, c_34', c_34'', reduceCtorEq, if_true, if_false], by rw [ht9]; exact hP, hD⟩, hS.F ht9⟩) hS.2.2 dX7_greatestRunUp_49
        · refine lv_iload hx hb dX7_greatestRunUp_37 (lv_at hl 0 rfl) ?_
          refine lv_istore (lv' := [(4, .int 3), (5, .int 3), (0, .ref w), (1, .int xc), (2, .int xr), (3, .int xd)]) hx hb dX7_greatestRunUp_39 hl (by decide) rfl (fun ls hl => ?_)
          refine lv_iinc (v := 4) (lv' := [(5, .int 4), (4, .int 3), (0, .ref w), (1, .int xc), (2, .int xr), (3, .int xd)]) hx hb dX7_greatestRunUp_41 hl (k := 1) rfl (by decide) (by decide) rfl (fun ls hl => ?_)
          refine lv_goto (tgt := 17) hx hb dX7_greatestRunUp_44 (by decide) ?_
          refine lv_iload hx hb dX7_greatestRunUp_17 (lv_at hl 0 rfl) ?_
          refine lv_iconst (v := 3) hx hb dX7_greatestRunUp_19 (by decide) ?_
          have c_20 : (3 : Int32) < 4 := by decide
          refine lv_icmp_gt (tgt := 47) hx hb dX7_greatestRunUp_20 (by decide) (fun _ => ?_) (fun q => absurd c_20 q)
          refine lv_iload hx hb dX7_greatestRunUp_47 (lv_at hl 1 rfl) ?_
          exact W.iret (v := 3) hx hb hr (fun t9 ht9 hW9 => ⟨⟨3, (), rfl, by simp only [bI_t, bI_nt, Bool.not_eq_true, Bool.not_eq_false] at c_6 c_34 c_34' c_34''; simp only [grB, c_6, c_34, c_34', c_34'', reduceCtorEq, if_true, if_false], by rw [ht9]; exact hP, hD⟩, hS.F ht9⟩) hS.2.2 dX7_greatestRunUp_49
  · refine lv_iconst (v := (-1)) hx hb dX7_greatestRunUp_9 (by decide) ?_
    exact W.iret (v := (-1)) hx hb hr (fun t9 ht9 hW9 => ⟨⟨(-1), (), rfl, by simp only [bI_t, bI_nt, Bool.not_eq_true, Bool.not_eq_false] at c_6; simp only [grB, c_6, reduceCtorEq, if_true, if_false], by rw [ht9]; exact hP, hD⟩, hS.F ht9⟩) hS.2.2 dX7_greatestRunUp_10
set_option maxHeartbeats 4000000 in
set_option maxRecDepth 100000 in
theorem m_turnBlock (l : Launch) (D : va_G) (cI cZ cW cJ : ClassId) (A : Nat → Prop) (X : va_W) (w wb ws : Nat) (wc wr wl ww wf : Int32) (wbl : Nat → Int32) (xc xr : Int32) : Met l yX7_turnBlock wsX7_turnBlock ({ frames := 0, cells := 0, slots := 0, locals := 0 }) (va_Pc [.ref w, .int xc, .int xr] (wd D (tyL cI cZ cW cJ) A (oX7 w wb ws wc wr wl ww wf :: aI cI wb 10 wbl :: X))) (va_Qv (fun (u : Nat → Int32) => u = tbX wbl xc xr) (fun (u : Nat → Int32) t => wq D A (oX7 w wb ws wc wr wl ww wf :: aI cI wb 10 u :: X) t) A) 0 0 A := by
  refine Met.ofW (cc := cX7_turnBlock) (maxL := 3) (ret := none) (by decide) rfl ?_
  intro p e s m args below meth c s₁ B hml hv
  obtain ⟨rfl, hsz9, hP, hK, hD, hN⟩ := hv
  have hx := B.exec
  have hb := B.bytes
  have hr := B.returns
  have hts := atoms_spec (ws := wsX7_turnBlock) B.pre
  have hown : s.vm.findClass RX7 = some m.cls := findClass_of_methodNamed B.named
  have hlocks := B.notSynchronized
  have CF : CallFix p m c cX7_turnBlock 3 s _ wsX7_turnBlock RX7 := ⟨hx, hb, hml, hown, hts⟩
  have hA : ∀ q : Nat, s.heap.size ≤ q → A q := hsz9
  have hS : va_S A s.heap s.heap [] := va_S.rf
  have hiX7 : ∀ w ∈ u_ws RX7 TX7 7, w ∈ wsX7_turnBlock := fun _ h => List.mem_cons_of_mem _ (List.mem_append_right _ (h))
  have hl := lv_entry ([.ref w, .int xc, .int xr]) (n := 3) (Nat.le_of_ble_eq_true rfl)
  rw [lg_entry_eq]
  generalize (lg_sl ([.ref w, .int xc, .int xr]) ++ List.replicate (3 - (lg_sl ([.ref w, .int xc, .int xr])).length) Slot.unset).toArray = ls at hl ⊢
  have hl : lv_has ls 3 [(0, .ref w), (1, .int xc), (2, .int xr)] := hl
  show W p l e ({ frames := 0, cells := 0, slots := 0, locals := 0 } : Room) s m (([.ref w, .int xc, .int xr] : List Value).toArray) below meth c s.heap [] 0 0 (MQ below (va_Qv (fun (u : Nat → Int32) => u = tbX wbl xc xr) (fun (u : Nat → Int32) t => wq D A (oX7 w wb ws wc wr wl ww wf :: aI cI wb 10 u :: X) t) A) (([.ref w, .int xc, .int xr] : List Value).toArray) s 0 0 A) (F0 m 0 ls [])
  refine lv_iload_n hx hb dX7_turnBlock_0 rfl (lv_at hl 2 rfl) ?_
  refine lv_if_lt (tgt := 25) hx hb dX7_turnBlock_1 (by decide) (fun c_1 => ?_) (fun c_1 => ?_)
  · exact W.vret hx hb hr (fun t9 ht9 hW9 => ⟨⟨wbl, rfl, by simp [tbX, c_1], by rw [ht9]; exact hP, hD⟩, hS.F ht9⟩) hS.2.2 dX7_turnBlock_25
  · refine lv_iload_n hx hb dX7_turnBlock_4 rfl (lv_at hl 2 rfl) ?_
    refine lv_aload_n hx hb dX7_turnBlock_5 rfl (lv_at hl 0 rfl) ?_
    refine va_get (D := D) (ci := 7) (v := .ref wb) (C := RX7) (T := TX7) (N := 7) hx hb hts hiX7 hown hK hP 0 rfl rfl 0 (by decide) (hts (.fieldLink RX7 9 "LedgeLeaps$World" "blocks" "[I") (List.mem_of_getElem? (i := 1) rfl)) (fun _ h9 => h9) rfl dX7_turnBlock_6 ?_
    refine va_alen (v := 10) hx hb hK hP 1 0 rfl rfl rfl dX7_turnBlock_9 ?_
    refine lv_icmp_ge (tgt := 25) hx hb dX7_turnBlock_10 (by decide) (fun c_10 => ?_) (fun c_10 => ?_)
    · exact W.vret hx hb hr (fun t9 ht9 hW9 => ⟨⟨wbl, rfl, by simp [tbX, c_1, c_10], by rw [ht9]; exact hP, hD⟩, hS.F ht9⟩) hS.2.2 dX7_turnBlock_25
    · refine lv_aload_n hx hb dX7_turnBlock_13 rfl (lv_at hl 0 rfl) ?_
      refine va_get (D := D) (ci := 7) (v := .ref wb) (C := RX7) (T := TX7) (N := 7) hx hb hts hiX7 hown hK hP 0 rfl rfl 0 (by decide) (hts (.fieldLink RX7 9 "LedgeLeaps$World" "blocks" "[I") (List.mem_of_getElem? (i := 1) rfl)) (fun _ h9 => h9) rfl dX7_turnBlock_14 ?_
      refine lv_iload_n hx hb dX7_turnBlock_17 rfl (lv_at hl 2 rfl) ?_
      refine lv_dup2_11 hx hb dX7_turnBlock_18 rfl rfl ?_
      refine va_iald hx hb hK hP 1 0 rfl rfl (vp_in_d (by decide) c_1 c_10) dX7_turnBlock_19 ?_
      refine lv_iconst (v := 1) hx hb dX7_turnBlock_20 (by decide) ?_
      refine lv_iload_n hx hb dX7_turnBlock_21 rfl (lv_at hl 1 rfl) ?_
      refine lv_ishl hx hb dX7_turnBlock_22 ?_
      refine lv_ixor hx hb dX7_turnBlock_23 ?_
      refine va_iast hx hb hK hP hD hS 1 0 rfl rfl (vp_in_d (by decide) c_1 c_10) dX7_turnBlock_24 (fun H locs hP hD hS => ?_)
      have hP : va_P D vwCl (oX7 w wb ws wc wr wl ww wf :: aI cI wb 10 (upd wbl xr.toNatClampNeg ((wbl xr.toNatClampNeg) ^^^ ((1 : Int32) <<< (xc &&& 31)))) :: X) H := hP
      have hD : va_D A (oX7 w wb ws wc wr wl ww wf :: aI cI wb 10 (upd wbl xr.toNatClampNeg ((wbl xr.toNatClampNeg) ^^^ ((1 : Int32) <<< (xc &&& 31)))) :: X) := hD
      exact W.vret hx hb hr (fun t9 ht9 hW9 => ⟨⟨(upd wbl xr.toNatClampNeg ((wbl xr.toNatClampNeg) ^^^ ((1 : Int32) <<< (xc &&& 31)))), rfl, by simp [tbX, c_1, c_10], by rw [ht9]; exact hP, hD⟩, hS.F ht9⟩) hS.2.2 dX7_turnBlock_25
set_option maxHeartbeats 4000000 in
set_option maxRecDepth 100000 in
theorem m_bitCount (l : Launch) (D : va_G) (cI cZ cW cJ : ClassId) (A : Nat → Prop) (X : va_W) (ix : Int32) : Met l yJ6_bitCount_0f7a4 wsJ6_bitCount_0f7a4 ({ frames := 0, cells := 0, slots := 0, locals := 0 }) (va_Pc [.int ix] (wd D (tyL cI cZ cW cJ) A (X))) (va_Qi (fun (r : Int32) (u : Unit) => r = bcX ix) (fun (u : Unit) t => wq D A (X) t) A) 0 0 A := by
  refine Met.ofW (cc := cJ6_bitCount_0f7a4) (maxL := 1) (ret := (some .int)) (by decide) rfl ?_
  intro p e s m args below meth c s₁ B hml hv
  obtain ⟨rfl, hsz9, hP, hK, hD, hN⟩ := hv
  have hx := B.exec
  have hb := B.bytes
  have hr := B.returns
  have hts := atoms_spec (ws := wsJ6_bitCount_0f7a4) B.pre
  have hown : s.vm.findClass RJ6 = some m.cls := findClass_of_methodNamed B.named
  have hlocks := B.notSynchronized
  have CF : CallFix p m c cJ6_bitCount_0f7a4 1 s _ wsJ6_bitCount_0f7a4 RJ6 := ⟨hx, hb, hml, hown, hts⟩
  have hA : ∀ q : Nat, s.heap.size ≤ q → A q := hsz9
  have hS : va_S A s.heap s.heap [] := va_S.rf
  have hl := lv_entry ([.int ix]) (n := 1) (Nat.le_of_ble_eq_true rfl)
  rw [lg_entry_eq]
  generalize (lg_sl ([.int ix]) ++ List.replicate (1 - (lg_sl ([.int ix])).length) Slot.unset).toArray = ls at hl ⊢
  have hl : lv_has ls 1 [(0, .int ix)] := hl
  show W p l e ({ frames := 0, cells := 0, slots := 0, locals := 0 } : Room) s m (([.int ix] : List Value).toArray) below meth c s.heap [] 0 0 (MQ below (va_Qi (fun (r : Int32) (u : Unit) => r = bcX ix) (fun (u : Unit) t => wq D A (X) t) A) (([.int ix] : List Value).toArray) s 0 0 A) (F0 m 0 ls [])
  refine lv_iload_n hx hb dJ6_bitCount_0f7a4_0 rfl (lv_at hl 0 rfl) ?_
  refine lv_iload_n hx hb dJ6_bitCount_0f7a4_1 rfl (lv_at hl 0 rfl) ?_
  refine lv_iconst (v := 1) hx hb dJ6_bitCount_0f7a4_2 (by decide) ?_
  refine lv_iushr (v := ((ix).toUInt32 >>> ((1 : Int32).toUInt32 &&& Int32.toUInt32 31)).toInt32) hx hb dJ6_bitCount_0f7a4_3 rfl ?_
  refine lv_ldcw (v := 1431655765) hx hb hown (hts (.constant RJ6 265 (1431655765)) (List.mem_of_getElem? (i := 1) rfl)) dJ6_bitCount_0f7a4_4 ?_
  refine lv_iand hx hb dJ6_bitCount_0f7a4_7 ?_
  refine lv_isub hx hb dJ6_bitCount_0f7a4_8 ?_
  refine lv_istore_n (lv' := [(0, .int (ix - ((((ix).toUInt32 >>> ((1 : Int32).toUInt32 &&& Int32.toUInt32 31)).toInt32) &&& 1431655765)))]) hx hb dJ6_bitCount_0f7a4_9 rfl hl (by decide) rfl (fun ls hl => ?_)
  refine lv_iload_n hx hb dJ6_bitCount_0f7a4_10 rfl (lv_at hl 0 rfl) ?_
  refine lv_ldcw (v := 858993459) hx hb hown (hts (.constant RJ6 266 (858993459)) (List.mem_of_getElem? (i := 2) rfl)) dJ6_bitCount_0f7a4_11 ?_
  refine lv_iand hx hb dJ6_bitCount_0f7a4_14 ?_
  refine lv_iload_n hx hb dJ6_bitCount_0f7a4_15 rfl (lv_at hl 0 rfl) ?_
  refine lv_iconst (v := 2) hx hb dJ6_bitCount_0f7a4_16 (by decide) ?_
  refine lv_iushr (v := (((ix - ((((ix).toUInt32 >>> ((1 : Int32).toUInt32 &&& Int32.toUInt32 31)).toInt32) &&& 1431655765))).toUInt32 >>> ((2 : Int32).toUInt32 &&& Int32.toUInt32 31)).toInt32) hx hb dJ6_bitCount_0f7a4_17 rfl ?_
  refine lv_ldcw (v := 858993459) hx hb hown (hts (.constant RJ6 266 (858993459)) (List.mem_of_getElem? (i := 2) rfl)) dJ6_bitCount_0f7a4_18 ?_
  refine lv_iand hx hb dJ6_bitCount_0f7a4_21 ?_
  refine lv_iadd hx hb dJ6_bitCount_0f7a4_22 ?_
  refine lv_istore_n (lv' := [(0, .int (((ix - ((((ix).toUInt32 >>> ((1 : Int32).toUInt32 &&& Int32.toUInt32 31)).toInt32) &&& 1431655765)) &&& 858993459) + (((((ix - ((((ix).toUInt32 >>> ((1 : Int32).toUInt32 &&& Int32.toUInt32 31)).toInt32) &&& 1431655765))).toUInt32 >>> ((2 : Int32).toUInt32 &&& Int32.toUInt32 31)).toInt32) &&& 858993459)))]) hx hb dJ6_bitCount_0f7a4_23 rfl hl (by decide) rfl (fun ls hl => ?_)
  refine lv_iload_n hx hb dJ6_bitCount_0f7a4_24 rfl (lv_at hl 0 rfl) ?_
  refine lv_iload_n hx hb dJ6_bitCount_0f7a4_25 rfl (lv_at hl 0 rfl) ?_
  refine lv_iconst (v := 4) hx hb dJ6_bitCount_0f7a4_26 (by decide) ?_
  refine lv_iushr (v := (((((ix - ((((ix).toUInt32 >>> ((1 : Int32).toUInt32 &&& Int32.toUInt32 31)).toInt32) &&& 1431655765)) &&& 858993459) + (((((ix - ((((ix).toUInt32 >>> ((1 : Int32).toUInt32 &&& Int32.toUInt32 31)).toInt32) &&& 1431655765))).toUInt32 >>> ((2 : Int32).toUInt32 &&& Int32.toUInt32 31)).toInt32) &&& 858993459))).toUInt32 >>> ((4 : Int32).toUInt32 &&& Int32.toUInt32 31)).toInt32) hx hb dJ6_bitCount_0f7a4_27 rfl ?_
  refine lv_iadd hx hb dJ6_bitCount_0f7a4_28 ?_
  refine lv_ldcw (v := 252645135) hx hb hown (hts (.constant RJ6 267 (252645135)) (List.mem_of_getElem? (i := 3) rfl)) dJ6_bitCount_0f7a4_29 ?_
  refine lv_iand hx hb dJ6_bitCount_0f7a4_32 ?_
  refine lv_istore_n (lv' := [(0, .int (((((ix - ((((ix).toUInt32 >>> ((1 : Int32).toUInt32 &&& Int32.toUInt32 31)).toInt32) &&& 1431655765)) &&& 858993459) + (((((ix - ((((ix).toUInt32 >>> ((1 : Int32).toUInt32 &&& Int32.toUInt32 31)).toInt32) &&& 1431655765))).toUInt32 >>> ((2 : Int32).toUInt32 &&& Int32.toUInt32 31)).toInt32) &&& 858993459)) + ((((((ix - ((((ix).toUInt32 >>> ((1 : Int32).toUInt32 &&& Int32.toUInt32 31)).toInt32) &&& 1431655765)) &&& 858993459) + (((((ix - ((((ix).toUInt32 >>> ((1 : Int32).toUInt32 &&& Int32.toUInt32 31)).toInt32) &&& 1431655765))).toUInt32 >>> ((2 : Int32).toUInt32 &&& Int32.toUInt32 31)).toInt32) &&& 858993459))).toUInt32 >>> ((4 : Int32).toUInt32 &&& Int32.toUInt32 31)).toInt32)) &&& 252645135))]) hx hb dJ6_bitCount_0f7a4_33 rfl hl (by decide) rfl (fun ls hl => ?_)
  refine lv_iload_n hx hb dJ6_bitCount_0f7a4_34 rfl (lv_at hl 0 rfl) ?_
  refine lv_iload_n hx hb dJ6_bitCount_0f7a4_35 rfl (lv_at hl 0 rfl) ?_
  refine lv_bipush (v := 8) hx hb dJ6_bitCount_0f7a4_36 (by decide) ?_
  refine lv_iushr (v := (((((((ix - ((((ix).toUInt32 >>> ((1 : Int32).toUInt32 &&& Int32.toUInt32 31)).toInt32) &&& 1431655765)) &&& 858993459) + (((((ix - ((((ix).toUInt32 >>> ((1 : Int32).toUInt32 &&& Int32.toUInt32 31)).toInt32) &&& 1431655765))).toUInt32 >>> ((2 : Int32).toUInt32 &&& Int32.toUInt32 31)).toInt32) &&& 858993459)) + ((((((ix - ((((ix).toUInt32 >>> ((1 : Int32).toUInt32 &&& Int32.toUInt32 31)).toInt32) &&& 1431655765)) &&& 858993459) + (((((ix - ((((ix).toUInt32 >>> ((1 : Int32).toUInt32 &&& Int32.toUInt32 31)).toInt32) &&& 1431655765))).toUInt32 >>> ((2 : Int32).toUInt32 &&& Int32.toUInt32 31)).toInt32) &&& 858993459))).toUInt32 >>> ((4 : Int32).toUInt32 &&& Int32.toUInt32 31)).toInt32)) &&& 252645135)).toUInt32 >>> ((8 : Int32).toUInt32 &&& Int32.toUInt32 31)).toInt32) hx hb dJ6_bitCount_0f7a4_38 rfl ?_
  refine lv_iadd hx hb dJ6_bitCount_0f7a4_39 ?_
  refine lv_istore_n (lv' := [(0, .int ((((((ix - ((((ix).toUInt32 >>> ((1 : Int32).toUInt32 &&& Int32.toUInt32 31)).toInt32) &&& 1431655765)) &&& 858993459) + (((((ix - ((((ix).toUInt32 >>> ((1 : Int32).toUInt32 &&& Int32.toUInt32 31)).toInt32) &&& 1431655765))).toUInt32 >>> ((2 : Int32).toUInt32 &&& Int32.toUInt32 31)).toInt32) &&& 858993459)) + ((((((ix - ((((ix).toUInt32 >>> ((1 : Int32).toUInt32 &&& Int32.toUInt32 31)).toInt32) &&& 1431655765)) &&& 858993459) + (((((ix - ((((ix).toUInt32 >>> ((1 : Int32).toUInt32 &&& Int32.toUInt32 31)).toInt32) &&& 1431655765))).toUInt32 >>> ((2 : Int32).toUInt32 &&& Int32.toUInt32 31)).toInt32) &&& 858993459))).toUInt32 >>> ((4 : Int32).toUInt32 &&& Int32.toUInt32 31)).toInt32)) &&& 252645135) + ((((((((ix - ((((ix).toUInt32 >>> ((1 : Int32).toUInt32 &&& Int32.toUInt32 31)).toInt32) &&& 1431655765)) &&& 858993459) + (((((ix - ((((ix).toUInt32 >>> ((1 : Int32).toUInt32 &&& Int32.toUInt32 31)).toInt32) &&& 1431655765))).toUInt32 >>> ((2 : Int32).toUInt32 &&& Int32.toUInt32 31)).toInt32) &&& 858993459)) + ((((((ix - ((((ix).toUInt32 >>> ((1 : Int32).toUInt32 &&& Int32.toUInt32 31)).toInt32) &&& 1431655765)) &&& 858993459) + (((((ix - ((((ix).toUInt32 >>> ((1 : Int32).toUInt32 &&& Int32.toUInt32 31)).toInt32) &&& 1431655765))).toUInt32 >>> ((2 : Int32).toUInt32 &&& Int32.toUInt32 31)).toInt32) &&& 858993459))).toUInt32 >>> ((4 : Int32).toUInt32 &&& Int32.toUInt32 31)).toInt32)) &&& 252645135)).toUInt32 >>> ((8 : Int32).toUInt32 &&& Int32.toUInt32 31)).toInt32)))]) hx hb dJ6_bitCount_0f7a4_40 rfl hl (by decide) rfl (fun ls hl => ?_)
  refine lv_iload_n hx hb dJ6_bitCount_0f7a4_41 rfl (lv_at hl 0 rfl) ?_
  refine lv_iload_n hx hb dJ6_bitCount_0f7a4_42 rfl (lv_at hl 0 rfl) ?_
  refine lv_bipush (v := 16) hx hb dJ6_bitCount_0f7a4_43 (by decide) ?_
  refine lv_iushr (v := ((((((((ix - ((((ix).toUInt32 >>> ((1 : Int32).toUInt32 &&& Int32.toUInt32 31)).toInt32) &&& 1431655765)) &&& 858993459) + (((((ix - ((((ix).toUInt32 >>> ((1 : Int32).toUInt32 &&& Int32.toUInt32 31)).toInt32) &&& 1431655765))).toUInt32 >>> ((2 : Int32).toUInt32 &&& Int32.toUInt32 31)).toInt32) &&& 858993459)) + ((((((ix - ((((ix).toUInt32 >>> ((1 : Int32).toUInt32 &&& Int32.toUInt32 31)).toInt32) &&& 1431655765)) &&& 858993459) + (((((ix - ((((ix).toUInt32 >>> ((1 : Int32).toUInt32 &&& Int32.toUInt32 31)).toInt32) &&& 1431655765))).toUInt32 >>> ((2 : Int32).toUInt32 &&& Int32.toUInt32 31)).toInt32) &&& 858993459))).toUInt32 >>> ((4 : Int32).toUInt32 &&& Int32.toUInt32 31)).toInt32)) &&& 252645135) + ((((((((ix - ((((ix).toUInt32 >>> ((1 : Int32).toUInt32 &&& Int32.toUInt32 31)).toInt32) &&& 1431655765)) &&& 858993459) + (((((ix - ((((ix).toUInt32 >>> ((1 : Int32).toUInt32 &&& Int32.toUInt32 31)).toInt32) &&& 1431655765))).toUInt32 >>> ((2 : Int32).toUInt32 &&& Int32.toUInt32 31)).toInt32) &&& 858993459)) + ((((((ix - ((((ix).toUInt32 >>> ((1 : Int32).toUInt32 &&& Int32.toUInt32 31)).toInt32) &&& 1431655765)) &&& 858993459) + (((((ix - ((((ix).toUInt32 >>> ((1 : Int32).toUInt32 &&& Int32.toUInt32 31)).toInt32) &&& 1431655765))).toUInt32 >>> ((2 : Int32).toUInt32 &&& Int32.toUInt32 31)).toInt32) &&& 858993459))).toUInt32 >>> ((4 : Int32).toUInt32 &&& Int32.toUInt32 31)).toInt32)) &&& 252645135)).toUInt32 >>> ((8 : Int32).toUInt32 &&& Int32.toUInt32 31)).toInt32))).toUInt32 >>> ((16 : Int32).toUInt32 &&& Int32.toUInt32 31)).toInt32) hx hb dJ6_bitCount_0f7a4_45 rfl ?_
  refine lv_iadd hx hb dJ6_bitCount_0f7a4_46 ?_
  refine lv_istore_n (lv' := [(0, .int (((((((ix - ((((ix).toUInt32 >>> ((1 : Int32).toUInt32 &&& Int32.toUInt32 31)).toInt32) &&& 1431655765)) &&& 858993459) + (((((ix - ((((ix).toUInt32 >>> ((1 : Int32).toUInt32 &&& Int32.toUInt32 31)).toInt32) &&& 1431655765))).toUInt32 >>> ((2 : Int32).toUInt32 &&& Int32.toUInt32 31)).toInt32) &&& 858993459)) + ((((((ix - ((((ix).toUInt32 >>> ((1 : Int32).toUInt32 &&& Int32.toUInt32 31)).toInt32) &&& 1431655765)) &&& 858993459) + (((((ix - ((((ix).toUInt32 >>> ((1 : Int32).toUInt32 &&& Int32.toUInt32 31)).toInt32) &&& 1431655765))).toUInt32 >>> ((2 : Int32).toUInt32 &&& Int32.toUInt32 31)).toInt32) &&& 858993459))).toUInt32 >>> ((4 : Int32).toUInt32 &&& Int32.toUInt32 31)).toInt32)) &&& 252645135) + ((((((((ix - ((((ix).toUInt32 >>> ((1 : Int32).toUInt32 &&& Int32.toUInt32 31)).toInt32) &&& 1431655765)) &&& 858993459) + (((((ix - ((((ix).toUInt32 >>> ((1 : Int32).toUInt32 &&& Int32.toUInt32 31)).toInt32) &&& 1431655765))).toUInt32 >>> ((2 : Int32).toUInt32 &&& Int32.toUInt32 31)).toInt32) &&& 858993459)) + ((((((ix - ((((ix).toUInt32 >>> ((1 : Int32).toUInt32 &&& Int32.toUInt32 31)).toInt32) &&& 1431655765)) &&& 858993459) + (((((ix - ((((ix).toUInt32 >>> ((1 : Int32).toUInt32 &&& Int32.toUInt32 31)).toInt32) &&& 1431655765))).toUInt32 >>> ((2 : Int32).toUInt32 &&& Int32.toUInt32 31)).toInt32) &&& 858993459))).toUInt32 >>> ((4 : Int32).toUInt32 &&& Int32.toUInt32 31)).toInt32)) &&& 252645135)).toUInt32 >>> ((8 : Int32).toUInt32 &&& Int32.toUInt32 31)).toInt32)) + (((((((((ix - ((((ix).toUInt32 >>> ((1 : Int32).toUInt32 &&& Int32.toUInt32 31)).toInt32) &&& 1431655765)) &&& 858993459) + (((((ix - ((((ix).toUInt32 >>> ((1 : Int32).toUInt32 &&& Int32.toUInt32 31)).toInt32) &&& 1431655765))).toUInt32 >>> ((2 : Int32).toUInt32 &&& Int32.toUInt32 31)).toInt32) &&& 858993459)) + ((((((ix - ((((ix).toUInt32 >>> ((1 : Int32).toUInt32 &&& Int32.toUInt32 31)).toInt32) &&& 1431655765)) &&& 858993459) + (((((ix - ((((ix).toUInt32 >>> ((1 : Int32).toUInt32 &&& Int32.toUInt32 31)).toInt32) &&& 1431655765))).toUInt32 >>> ((2 : Int32).toUInt32 &&& Int32.toUInt32 31)).toInt32) &&& 858993459))).toUInt32 >>> ((4 : Int32).toUInt32 &&& Int32.toUInt32 31)).toInt32)) &&& 252645135) + ((((((((ix - ((((ix).toUInt32 >>> ((1 : Int32).toUInt32 &&& Int32.toUInt32 31)).toInt32) &&& 1431655765)) &&& 858993459) + (((((ix - ((((ix).toUInt32 >>> ((1 : Int32).toUInt32 &&& Int32.toUInt32 31)).toInt32) &&& 1431655765))).toUInt32 >>> ((2 : Int32).toUInt32 &&& Int32.toUInt32 31)).toInt32) &&& 858993459)) + ((((((ix - ((((ix).toUInt32 >>> ((1 : Int32).toUInt32 &&& Int32.toUInt32 31)).toInt32) &&& 1431655765)) &&& 858993459) + (((((ix - ((((ix).toUInt32 >>> ((1 : Int32).toUInt32 &&& Int32.toUInt32 31)).toInt32) &&& 1431655765))).toUInt32 >>> ((2 : Int32).toUInt32 &&& Int32.toUInt32 31)).toInt32) &&& 858993459))).toUInt32 >>> ((4 : Int32).toUInt32 &&& Int32.toUInt32 31)).toInt32)) &&& 252645135)).toUInt32 >>> ((8 : Int32).toUInt32 &&& Int32.toUInt32 31)).toInt32))).toUInt32 >>> ((16 : Int32).toUInt32 &&& Int32.toUInt32 31)).toInt32)))]) hx hb dJ6_bitCount_0f7a4_47 rfl hl (by decide) rfl (fun ls hl => ?_)
  refine lv_iload_n hx hb dJ6_bitCount_0f7a4_48 rfl (lv_at hl 0 rfl) ?_
  refine lv_bipush (v := 63) hx hb dJ6_bitCount_0f7a4_49 (by decide) ?_
  refine lv_iand hx hb dJ6_bitCount_0f7a4_51 ?_
  exact W.iret (v := ((((((((ix - ((((ix).toUInt32 >>> ((1 : Int32).toUInt32 &&& Int32.toUInt32 31)).toInt32) &&& 1431655765)) &&& 858993459) + (((((ix - ((((ix).toUInt32 >>> ((1 : Int32).toUInt32 &&& Int32.toUInt32 31)).toInt32) &&& 1431655765))).toUInt32 >>> ((2 : Int32).toUInt32 &&& Int32.toUInt32 31)).toInt32) &&& 858993459)) + ((((((ix - ((((ix).toUInt32 >>> ((1 : Int32).toUInt32 &&& Int32.toUInt32 31)).toInt32) &&& 1431655765)) &&& 858993459) + (((((ix - ((((ix).toUInt32 >>> ((1 : Int32).toUInt32 &&& Int32.toUInt32 31)).toInt32) &&& 1431655765))).toUInt32 >>> ((2 : Int32).toUInt32 &&& Int32.toUInt32 31)).toInt32) &&& 858993459))).toUInt32 >>> ((4 : Int32).toUInt32 &&& Int32.toUInt32 31)).toInt32)) &&& 252645135) + ((((((((ix - ((((ix).toUInt32 >>> ((1 : Int32).toUInt32 &&& Int32.toUInt32 31)).toInt32) &&& 1431655765)) &&& 858993459) + (((((ix - ((((ix).toUInt32 >>> ((1 : Int32).toUInt32 &&& Int32.toUInt32 31)).toInt32) &&& 1431655765))).toUInt32 >>> ((2 : Int32).toUInt32 &&& Int32.toUInt32 31)).toInt32) &&& 858993459)) + ((((((ix - ((((ix).toUInt32 >>> ((1 : Int32).toUInt32 &&& Int32.toUInt32 31)).toInt32) &&& 1431655765)) &&& 858993459) + (((((ix - ((((ix).toUInt32 >>> ((1 : Int32).toUInt32 &&& Int32.toUInt32 31)).toInt32) &&& 1431655765))).toUInt32 >>> ((2 : Int32).toUInt32 &&& Int32.toUInt32 31)).toInt32) &&& 858993459))).toUInt32 >>> ((4 : Int32).toUInt32 &&& Int32.toUInt32 31)).toInt32)) &&& 252645135)).toUInt32 >>> ((8 : Int32).toUInt32 &&& Int32.toUInt32 31)).toInt32)) + (((((((((ix - ((((ix).toUInt32 >>> ((1 : Int32).toUInt32 &&& Int32.toUInt32 31)).toInt32) &&& 1431655765)) &&& 858993459) + (((((ix - ((((ix).toUInt32 >>> ((1 : Int32).toUInt32 &&& Int32.toUInt32 31)).toInt32) &&& 1431655765))).toUInt32 >>> ((2 : Int32).toUInt32 &&& Int32.toUInt32 31)).toInt32) &&& 858993459)) + ((((((ix - ((((ix).toUInt32 >>> ((1 : Int32).toUInt32 &&& Int32.toUInt32 31)).toInt32) &&& 1431655765)) &&& 858993459) + (((((ix - ((((ix).toUInt32 >>> ((1 : Int32).toUInt32 &&& Int32.toUInt32 31)).toInt32) &&& 1431655765))).toUInt32 >>> ((2 : Int32).toUInt32 &&& Int32.toUInt32 31)).toInt32) &&& 858993459))).toUInt32 >>> ((4 : Int32).toUInt32 &&& Int32.toUInt32 31)).toInt32)) &&& 252645135) + ((((((((ix - ((((ix).toUInt32 >>> ((1 : Int32).toUInt32 &&& Int32.toUInt32 31)).toInt32) &&& 1431655765)) &&& 858993459) + (((((ix - ((((ix).toUInt32 >>> ((1 : Int32).toUInt32 &&& Int32.toUInt32 31)).toInt32) &&& 1431655765))).toUInt32 >>> ((2 : Int32).toUInt32 &&& Int32.toUInt32 31)).toInt32) &&& 858993459)) + ((((((ix - ((((ix).toUInt32 >>> ((1 : Int32).toUInt32 &&& Int32.toUInt32 31)).toInt32) &&& 1431655765)) &&& 858993459) + (((((ix - ((((ix).toUInt32 >>> ((1 : Int32).toUInt32 &&& Int32.toUInt32 31)).toInt32) &&& 1431655765))).toUInt32 >>> ((2 : Int32).toUInt32 &&& Int32.toUInt32 31)).toInt32) &&& 858993459))).toUInt32 >>> ((4 : Int32).toUInt32 &&& Int32.toUInt32 31)).toInt32)) &&& 252645135)).toUInt32 >>> ((8 : Int32).toUInt32 &&& Int32.toUInt32 31)).toInt32))).toUInt32 >>> ((16 : Int32).toUInt32 &&& Int32.toUInt32 31)).toInt32)) &&& 63)) hx hb hr (fun t9 ht9 hW9 => ⟨⟨((((((((ix - ((((ix).toUInt32 >>> ((1 : Int32).toUInt32 &&& Int32.toUInt32 31)).toInt32) &&& 1431655765)) &&& 858993459) + (((((ix - ((((ix).toUInt32 >>> ((1 : Int32).toUInt32 &&& Int32.toUInt32 31)).toInt32) &&& 1431655765))).toUInt32 >>> ((2 : Int32).toUInt32 &&& Int32.toUInt32 31)).toInt32) &&& 858993459)) + ((((((ix - ((((ix).toUInt32 >>> ((1 : Int32).toUInt32 &&& Int32.toUInt32 31)).toInt32) &&& 1431655765)) &&& 858993459) + (((((ix - ((((ix).toUInt32 >>> ((1 : Int32).toUInt32 &&& Int32.toUInt32 31)).toInt32) &&& 1431655765))).toUInt32 >>> ((2 : Int32).toUInt32 &&& Int32.toUInt32 31)).toInt32) &&& 858993459))).toUInt32 >>> ((4 : Int32).toUInt32 &&& Int32.toUInt32 31)).toInt32)) &&& 252645135) + ((((((((ix - ((((ix).toUInt32 >>> ((1 : Int32).toUInt32 &&& Int32.toUInt32 31)).toInt32) &&& 1431655765)) &&& 858993459) + (((((ix - ((((ix).toUInt32 >>> ((1 : Int32).toUInt32 &&& Int32.toUInt32 31)).toInt32) &&& 1431655765))).toUInt32 >>> ((2 : Int32).toUInt32 &&& Int32.toUInt32 31)).toInt32) &&& 858993459)) + ((((((ix - ((((ix).toUInt32 >>> ((1 : Int32).toUInt32 &&& Int32.toUInt32 31)).toInt32) &&& 1431655765)) &&& 858993459) + (((((ix - ((((ix).toUInt32 >>> ((1 : Int32).toUInt32 &&& Int32.toUInt32 31)).toInt32) &&& 1431655765))).toUInt32 >>> ((2 : Int32).toUInt32 &&& Int32.toUInt32 31)).toInt32) &&& 858993459))).toUInt32 >>> ((4 : Int32).toUInt32 &&& Int32.toUInt32 31)).toInt32)) &&& 252645135)).toUInt32 >>> ((8 : Int32).toUInt32 &&& Int32.toUInt32 31)).toInt32)) + (((((((((ix - ((((ix).toUInt32 >>> ((1 : Int32).toUInt32 &&& Int32.toUInt32 31)).toInt32) &&& 1431655765)) &&& 858993459) + (((((ix - ((((ix).toUInt32 >>> ((1 : Int32).toUInt32 &&& Int32.toUInt32 31)).toInt32) &&& 1431655765))).toUInt32 >>> ((2 : Int32).toUInt32 &&& Int32.toUInt32 31)).toInt32) &&& 858993459)) + ((((((ix - ((((ix).toUInt32 >>> ((1 : Int32).toUInt32 &&& Int32.toUInt32 31)).toInt32) &&& 1431655765)) &&& 858993459) + (((((ix - ((((ix).toUInt32 >>> ((1 : Int32).toUInt32 &&& Int32.toUInt32 31)).toInt32) &&& 1431655765))).toUInt32 >>> ((2 : Int32).toUInt32 &&& Int32.toUInt32 31)).toInt32) &&& 858993459))).toUInt32 >>> ((4 : Int32).toUInt32 &&& Int32.toUInt32 31)).toInt32)) &&& 252645135) + ((((((((ix - ((((ix).toUInt32 >>> ((1 : Int32).toUInt32 &&& Int32.toUInt32 31)).toInt32) &&& 1431655765)) &&& 858993459) + (((((ix - ((((ix).toUInt32 >>> ((1 : Int32).toUInt32 &&& Int32.toUInt32 31)).toInt32) &&& 1431655765))).toUInt32 >>> ((2 : Int32).toUInt32 &&& Int32.toUInt32 31)).toInt32) &&& 858993459)) + ((((((ix - ((((ix).toUInt32 >>> ((1 : Int32).toUInt32 &&& Int32.toUInt32 31)).toInt32) &&& 1431655765)) &&& 858993459) + (((((ix - ((((ix).toUInt32 >>> ((1 : Int32).toUInt32 &&& Int32.toUInt32 31)).toInt32) &&& 1431655765))).toUInt32 >>> ((2 : Int32).toUInt32 &&& Int32.toUInt32 31)).toInt32) &&& 858993459))).toUInt32 >>> ((4 : Int32).toUInt32 &&& Int32.toUInt32 31)).toInt32)) &&& 252645135)).toUInt32 >>> ((8 : Int32).toUInt32 &&& Int32.toUInt32 31)).toInt32))).toUInt32 >>> ((16 : Int32).toUInt32 &&& Int32.toUInt32 31)).toInt32)) &&& 63), (), rfl, rfl, by rw [ht9]; exact hP, hD⟩, hS.F ht9⟩) hS.2.2 dJ6_bitCount_0f7a4_52
set_option maxHeartbeats 4000000 in
set_option maxRecDepth 100000 in
theorem m_blockCount (l : Launch) (D : va_G) (cI cZ cW cJ : ClassId) (A : Nat → Prop) (X : va_W) (w wb ws : Nat) (wc wr wl ww wf : Int32) (wbl : Nat → Int32) : Met l yX7_blockCount wsX7_blockCount ({ frames := 1, cells := 0, slots := 0, locals := 20 }) (va_Pc [.ref w] (wd D (tyL cI cZ cW cJ) A (oX7 w wb ws wc wr wl ww wf :: aI cI wb 10 wbl :: X))) (va_Qi (fun (r : Int32) (u : Unit) => r = 0 + bcX (wbl 0) + bcX (wbl 1) + bcX (wbl 2) + bcX (wbl 3) + bcX (wbl 4) + bcX (wbl 5) + bcX (wbl 6) + bcX (wbl 7) + bcX (wbl 8) + bcX (wbl 9)) (fun (u : Unit) t => wq D A (oX7 w wb ws wc wr wl ww wf :: aI cI wb 10 wbl :: X) t) A) 0 0 A := by
  refine Met.ofW (cc := cX7_blockCount) (maxL := 6) (ret := (some .int)) (by decide) rfl ?_
  intro p e s m args below meth c s₁ B hml hv
  obtain ⟨rfl, hsz9, hP, hK, hD, hN⟩ := hv
  have hx := B.exec
  have hb := B.bytes
  have hr := B.returns
  have hts := atoms_spec (ws := wsX7_blockCount) B.pre
  have hown : s.vm.findClass RX7 = some m.cls := findClass_of_methodNamed B.named
  have hlocks := B.notSynchronized
  have CF : CallFix p m c cX7_blockCount 6 s _ wsX7_blockCount RX7 := ⟨hx, hb, hml, hown, hts⟩
  have hA : ∀ q : Nat, s.heap.size ≤ q → A q := hsz9
  have hS : va_S A s.heap s.heap [] := va_S.rf
  have hiX7 : ∀ w ∈ u_ws RX7 TX7 7, w ∈ wsX7_blockCount := fun _ h => List.mem_cons_of_mem _ (List.mem_append_right _ (h))
  have hl := lv_entry ([.ref w]) (n := 6) (Nat.le_of_ble_eq_true rfl)
  rw [lg_entry_eq]
  generalize (lg_sl ([.ref w]) ++ List.replicate (6 - (lg_sl ([.ref w])).length) Slot.unset).toArray = ls at hl ⊢
  have hl : lv_has ls 6 [(0, .ref w)] := hl
  show W p l e ({ frames := 1, cells := 0, slots := 0, locals := 20 } : Room) s m (([.ref w] : List Value).toArray) below meth c s.heap [] 0 0 (MQ below (va_Qi (fun (r : Int32) (u : Unit) => r = 0 + bcX (wbl 0) + bcX (wbl 1) + bcX (wbl 2) + bcX (wbl 3) + bcX (wbl 4) + bcX (wbl 5) + bcX (wbl 6) + bcX (wbl 7) + bcX (wbl 8) + bcX (wbl 9)) (fun (u : Unit) t => wq D A (oX7 w wb ws wc wr wl ww wf :: aI cI wb 10 wbl :: X) t) A) (([.ref w] : List Value).toArray) s 0 0 A) (F0 m 0 ls [])
  refine lv_iconst (v := 0) hx hb dX7_blockCount_0 (by decide) ?_
  refine lv_istore_n (lv' := [(1, .int 0), (0, .ref w)]) hx hb dX7_blockCount_1 rfl hl (by decide) rfl (fun ls hl => ?_)
  refine lv_aload_n hx hb dX7_blockCount_2 rfl (lv_at hl 1 rfl) ?_
  refine va_get (D := D) (ci := 7) (v := .ref wb) (C := RX7) (T := TX7) (N := 7) hx hb hts hiX7 hown hK hP 0 rfl rfl 0 (by decide) (hts (.fieldLink RX7 9 "LedgeLeaps$World" "blocks" "[I") (List.mem_of_getElem? (i := 1) rfl)) (fun _ h9 => h9) rfl dX7_blockCount_3 ?_
  refine lv_astore_n (lv' := [(2, .ref wb), (1, .int 0), (0, .ref w)]) hx hb dX7_blockCount_6 rfl hl (by decide) rfl (fun ls hl => ?_)
  refine lv_aload_n hx hb dX7_blockCount_7 rfl (lv_at hl 0 rfl) ?_
  refine va_alen (v := 10) hx hb hK hP 1 0 rfl rfl rfl dX7_blockCount_8 ?_
  refine lv_istore_n (lv' := [(3, .int 10), (2, .ref wb), (1, .int 0), (0, .ref w)]) hx hb dX7_blockCount_9 rfl hl (by decide) rfl (fun ls hl => ?_)
  refine lv_iconst (v := 0) hx hb dX7_blockCount_10 (by decide) ?_
  refine lv_istore (lv' := [(4, .int 0), (3, .int 10), (2, .ref wb), (1, .int 0), (0, .ref w)]) hx hb dX7_blockCount_11 hl (by decide) rfl (fun ls hl => ?_)
  refine lv_iload hx hb dX7_blockCount_13 (lv_at hl 0 rfl) ?_
  refine lv_iload_n hx hb dX7_blockCount_15 rfl (lv_at hl 1 rfl) ?_
  have c_16 : ¬ (10 : Int32) ≤ 0 := by decide
  refine lv_icmp_ge (tgt := 39) hx hb dX7_blockCount_16 (by decide) (fun q => absurd q c_16) (fun _ => ?_)
  refine lv_aload_n hx hb dX7_blockCount_19 rfl (lv_at hl 2 rfl) ?_
  refine lv_iload hx hb dX7_blockCount_20 (lv_at hl 0 rfl) ?_
  refine va_iald hx hb hK hP 1 0 rfl rfl (show ¬ ((0 : Int32) < 0 ∨ 10 ≤ (0 : Int32).toNatClampNeg) by decide) dX7_blockCount_22 ?_
  refine top_i (y := (wbl 0)) (rfl) ?_
  refine lv_istore (lv' := [(5, .int (wbl 0)), (4, .int 0), (3, .int 10), (2, .ref wb), (1, .int 0), (0, .ref w)]) hx hb dX7_blockCount_23 hl (by decide) rfl (fun ls hl => ?_)
  refine lv_iload_n hx hb dX7_blockCount_25 rfl (lv_at hl 4 rfl) ?_
  refine lv_iload hx hb dX7_blockCount_26 (lv_at hl 0 rfl) ?_
  refine cS_i CF hK hN hA hS (cut_of 2 [0, 1] hP hD rfl rfl rfl) (m_bitCount l D cI cZ cW cJ A (oX7 w wb ws wc wr wl ww wf :: aI cI wb 10 wbl :: X) (wbl 0)) (va_cwS 1 hts gX7_blockCount_J6_bitCount_0f7a4 rfl rfl rfl (by decide +kernel) ⟨Nat.le_of_ble_eq_true rfl, Nat.le_of_ble_eq_true rfl⟩) (As := [.int (wbl 0)]) (rest := [.int 0]) rfl hl.1 rfl (Nat.le_of_ble_eq_true rfl) dX7_blockCount_28 ⟨Nat.le_of_ble_eq_true rfl, Nat.le_of_ble_eq_true rfl⟩ (fun r_28 _ H locs hq hP hD hS => ?_)
  have hq : r_28 = bcX (wbl 0) := hq
  subst hq
  have hP : va_P D vwCl (oX7 w wb ws wc wr wl ww wf :: aI cI wb 10 wbl :: X) H := pm_P hP 2 [0, 1] rfl
  have hD : va_D A (oX7 w wb ws wc wr wl ww wf :: aI cI wb 10 wbl :: X) := pm_D hD 2 [0, 1] rfl rfl rfl
  refine lv_iadd hx hb dX7_blockCount_31 ?_
  refine lv_istore_n (lv' := [(1, .int (0 + (bcX (wbl 0)))), (5, .int (wbl 0)), (4, .int 0), (3, .int 10), (2, .ref wb), (0, .ref w)]) hx hb dX7_blockCount_32 rfl hl (by decide) rfl (fun ls hl => ?_)
  refine lv_iinc (v := 1) (lv' := [(4, .int 1), (1, .int (0 + (bcX (wbl 0)))), (5, .int (wbl 0)), (3, .int 10), (2, .ref wb), (0, .ref w)]) hx hb dX7_blockCount_33 hl (k := 2) rfl (by decide) (by decide) rfl (fun ls hl => ?_)
  refine lv_goto (tgt := 13) hx hb dX7_blockCount_36 (by decide) ?_
  refine lv_iload hx hb dX7_blockCount_13 (lv_at hl 0 rfl) ?_
  refine lv_iload_n hx hb dX7_blockCount_15 rfl (lv_at hl 3 rfl) ?_
  have c_16 : ¬ (10 : Int32) ≤ 1 := by decide
  refine lv_icmp_ge (tgt := 39) hx hb dX7_blockCount_16 (by decide) (fun q => absurd q c_16) (fun _ => ?_)
  refine lv_aload_n hx hb dX7_blockCount_19 rfl (lv_at hl 4 rfl) ?_
  refine lv_iload hx hb dX7_blockCount_20 (lv_at hl 0 rfl) ?_
  refine va_iald hx hb hK hP 1 0 rfl rfl (show ¬ ((1 : Int32) < 0 ∨ 10 ≤ (1 : Int32).toNatClampNeg) by decide) dX7_blockCount_22 ?_
  refine top_i (y := (wbl 1)) (rfl) ?_
  refine lv_istore (lv' := [(5, .int (wbl 1)), (4, .int 1), (1, .int (0 + (bcX (wbl 0)))), (3, .int 10), (2, .ref wb), (0, .ref w)]) hx hb dX7_blockCount_23 hl (by decide) rfl (fun ls hl => ?_)
  refine lv_iload_n hx hb dX7_blockCount_25 rfl (lv_at hl 2 rfl) ?_
  refine lv_iload hx hb dX7_blockCount_26 (lv_at hl 0 rfl) ?_
  refine cS_i CF hK hN hA hS (cut_of 2 [0, 1] hP hD rfl rfl rfl) (m_bitCount l D cI cZ cW cJ A (oX7 w wb ws wc wr wl ww wf :: aI cI wb 10 wbl :: X) (wbl 1)) (va_cwS 1 hts gX7_blockCount_J6_bitCount_0f7a4 rfl rfl rfl (by decide +kernel) ⟨Nat.le_of_ble_eq_true rfl, Nat.le_of_ble_eq_true rfl⟩) (As := [.int (wbl 1)]) (rest := [.int (0 + (bcX (wbl 0)))]) rfl hl.1 rfl (Nat.le_of_ble_eq_true rfl) dX7_blockCount_28 ⟨Nat.le_of_ble_eq_true rfl, Nat.le_of_ble_eq_true rfl⟩ (fun r_28 _ H locs hq hP hD hS => ?_)
  have hq : r_28 = bcX (wbl 1) := hq
  subst hq
  have hP : va_P D vwCl (oX7 w wb ws wc wr wl ww wf :: aI cI wb 10 wbl :: X) H := pm_P hP 2 [0, 1] rfl
  have hD : va_D A (oX7 w wb ws wc wr wl ww wf :: aI cI wb 10 wbl :: X) := pm_D hD 2 [0, 1] rfl rfl rfl
  refine lv_iadd hx hb dX7_blockCount_31 ?_
  refine lv_istore_n (lv' := [(1, .int ((0 + (bcX (wbl 0))) + (bcX (wbl 1)))), (5, .int (wbl 1)), (4, .int 1), (3, .int 10), (2, .ref wb), (0, .ref w)]) hx hb dX7_blockCount_32 rfl hl (by decide) rfl (fun ls hl => ?_)
  refine lv_iinc (v := 2) (lv' := [(4, .int 2), (1, .int ((0 + (bcX (wbl 0))) + (bcX (wbl 1)))), (5, .int (wbl 1)), (3, .int 10), (2, .ref wb), (0, .ref w)]) hx hb dX7_blockCount_33 hl (k := 2) rfl (by decide) (by decide) rfl (fun ls hl => ?_)
  refine lv_goto (tgt := 13) hx hb dX7_blockCount_36 (by decide) ?_
  refine lv_iload hx hb dX7_blockCount_13 (lv_at hl 0 rfl) ?_
  refine lv_iload_n hx hb dX7_blockCount_15 rfl (lv_at hl 3 rfl) ?_
  have c_16 : ¬ (10 : Int32) ≤ 2 := by decide
  refine lv_icmp_ge (tgt := 39) hx hb dX7_blockCount_16 (by decide) (fun q => absurd q c_16) (fun _ => ?_)
  refine lv_aload_n hx hb dX7_blockCount_19 rfl (lv_at hl 4 rfl) ?_
  refine lv_iload hx hb dX7_blockCount_20 (lv_at hl 0 rfl) ?_
  refine va_iald hx hb hK hP 1 0 rfl rfl (show ¬ ((2 : Int32) < 0 ∨ 10 ≤ (2 : Int32).toNatClampNeg) by decide) dX7_blockCount_22 ?_
  refine top_i (y := (wbl 2)) (rfl) ?_
  refine lv_istore (lv' := [(5, .int (wbl 2)), (4, .int 2), (1, .int ((0 + (bcX (wbl 0))) + (bcX (wbl 1)))), (3, .int 10), (2, .ref wb), (0, .ref w)]) hx hb dX7_blockCount_23 hl (by decide) rfl (fun ls hl => ?_)
  refine lv_iload_n hx hb dX7_blockCount_25 rfl (lv_at hl 2 rfl) ?_
  refine lv_iload hx hb dX7_blockCount_26 (lv_at hl 0 rfl) ?_
  refine cS_i CF hK hN hA hS (cut_of 2 [0, 1] hP hD rfl rfl rfl) (m_bitCount l D cI cZ cW cJ A (oX7 w wb ws wc wr wl ww wf :: aI cI wb 10 wbl :: X) (wbl 2)) (va_cwS 1 hts gX7_blockCount_J6_bitCount_0f7a4 rfl rfl rfl (by decide +kernel) ⟨Nat.le_of_ble_eq_true rfl, Nat.le_of_ble_eq_true rfl⟩) (As := [.int (wbl 2)]) (rest := [.int ((0 + (bcX (wbl 0))) + (bcX (wbl 1)))]) rfl hl.1 rfl (Nat.le_of_ble_eq_true rfl) dX7_blockCount_28 ⟨Nat.le_of_ble_eq_true rfl, Nat.le_of_ble_eq_true rfl⟩ (fun r_28 _ H locs hq hP hD hS => ?_)
  have hq : r_28 = bcX (wbl 2) := hq
  subst hq
  have hP : va_P D vwCl (oX7 w wb ws wc wr wl ww wf :: aI cI wb 10 wbl :: X) H := pm_P hP 2 [0, 1] rfl
  have hD : va_D A (oX7 w wb ws wc wr wl ww wf :: aI cI wb 10 wbl :: X) := pm_D hD 2 [0, 1] rfl rfl rfl
  refine lv_iadd hx hb dX7_blockCount_31 ?_
  refine lv_istore_n (lv' := [(1, .int (((0 + (bcX (wbl 0))) + (bcX (wbl 1))) + (bcX (wbl 2)))), (5, .int (wbl 2)), (4, .int 2), (3, .int 10), (2, .ref wb), (0, .ref w)]) hx hb dX7_blockCount_32 rfl hl (by decide) rfl (fun ls hl => ?_)
  refine lv_iinc (v := 3) (lv' := [(4, .int 3), (1, .int (((0 + (bcX (wbl 0))) + (bcX (wbl 1))) + (bcX (wbl 2)))), (5, .int (wbl 2)), (3, .int 10), (2, .ref wb), (0, .ref w)]) hx hb dX7_blockCount_33 hl (k := 2) rfl (by decide) (by decide) rfl (fun ls hl => ?_)
  refine lv_goto (tgt := 13) hx hb dX7_blockCount_36 (by decide) ?_
  refine lv_iload hx hb dX7_blockCount_13 (lv_at hl 0 rfl) ?_
  refine lv_iload_n hx hb dX7_blockCount_15 rfl (lv_at hl 3 rfl) ?_
  have c_16 : ¬ (10 : Int32) ≤ 3 := by decide
  refine lv_icmp_ge (tgt := 39) hx hb dX7_blockCount_16 (by decide) (fun q => absurd q c_16) (fun _ => ?_)
  refine lv_aload_n hx hb dX7_blockCount_19 rfl (lv_at hl 4 rfl) ?_
  refine lv_iload hx hb dX7_blockCount_20 (lv_at hl 0 rfl) ?_
  refine va_iald hx hb hK hP 1 0 rfl rfl (show ¬ ((3 : Int32) < 0 ∨ 10 ≤ (3 : Int32).toNatClampNeg) by decide) dX7_blockCount_22 ?_
  refine top_i (y := (wbl 3)) (rfl) ?_
  refine lv_istore (lv' := [(5, .int (wbl 3)), (4, .int 3), (1, .int (((0 + (bcX (wbl 0))) + (bcX (wbl 1))) + (bcX (wbl 2)))), (3, .int 10), (2, .ref wb), (0, .ref w)]) hx hb dX7_blockCount_23 hl (by decide) rfl (fun ls hl => ?_)
  refine lv_iload_n hx hb dX7_blockCount_25 rfl (lv_at hl 2 rfl) ?_
  refine lv_iload hx hb dX7_blockCount_26 (lv_at hl 0 rfl) ?_
  refine cS_i CF hK hN hA hS (cut_of 2 [0, 1] hP hD rfl rfl rfl) (m_bitCount l D cI cZ cW cJ A (oX7 w wb ws wc wr wl ww wf :: aI cI wb 10 wbl :: X) (wbl 3)) (va_cwS 1 hts gX7_blockCount_J6_bitCount_0f7a4 rfl rfl rfl (by decide +kernel) ⟨Nat.le_of_ble_eq_true rfl, Nat.le_of_ble_eq_true rfl⟩) (As := [.int (wbl 3)]) (rest := [.int (((0 + (bcX (wbl 0))) + (bcX (wbl 1))) + (bcX (wbl 2)))]) rfl hl.1 rfl (Nat.le_of_ble_eq_true rfl) dX7_blockCount_28 ⟨Nat.le_of_ble_eq_true rfl, Nat.le_of_ble_eq_true rfl⟩ (fun r_28 _ H locs hq hP hD hS => ?_)
  have hq : r_28 = bcX (wbl 3) := hq
  subst hq
  have hP : va_P D vwCl (oX7 w wb ws wc wr wl ww wf :: aI cI wb 10 wbl :: X) H := pm_P hP 2 [0, 1] rfl
  have hD : va_D A (oX7 w wb ws wc wr wl ww wf :: aI cI wb 10 wbl :: X) := pm_D hD 2 [0, 1] rfl rfl rfl
  refine lv_iadd hx hb dX7_blockCount_31 ?_
  refine lv_istore_n (lv' := [(1, .int ((((0 + (bcX (wbl 0))) + (bcX (wbl 1))) + (bcX (wbl 2))) + (bcX (wbl 3)))), (5, .int (wbl 3)), (4, .int 3), (3, .int 10), (2, .ref wb), (0, .ref w)]) hx hb dX7_blockCount_32 rfl hl (by decide) rfl (fun ls hl => ?_)
  refine lv_iinc (v := 4) (lv' := [(4, .int 4), (1, .int ((((0 + (bcX (wbl 0))) + (bcX (wbl 1))) + (bcX (wbl 2))) + (bcX (wbl 3)))), (5, .int (wbl 3)), (3, .int 10), (2, .ref wb), (0, .ref w)]) hx hb dX7_blockCount_33 hl (k := 2) rfl (by decide) (by decide) rfl (fun ls hl => ?_)
  refine lv_goto (tgt := 13) hx hb dX7_blockCount_36 (by decide) ?_
  refine lv_iload hx hb dX7_blockCount_13 (lv_at hl 0 rfl) ?_
  refine lv_iload_n hx hb dX7_blockCount_15 rfl (lv_at hl 3 rfl) ?_
  have c_16 : ¬ (10 : Int32) ≤ 4 := by decide
  refine lv_icmp_ge (tgt := 39) hx hb dX7_blockCount_16 (by decide) (fun q => absurd q c_16) (fun _ => ?_)
  refine lv_aload_n hx hb dX7_blockCount_19 rfl (lv_at hl 4 rfl) ?_
  refine lv_iload hx hb dX7_blockCount_20 (lv_at hl 0 rfl) ?_
  refine va_iald hx hb hK hP 1 0 rfl rfl (show ¬ ((4 : Int32) < 0 ∨ 10 ≤ (4 : Int32).toNatClampNeg) by decide) dX7_blockCount_22 ?_
  refine top_i (y := (wbl 4)) (rfl) ?_
  refine lv_istore (lv' := [(5, .int (wbl 4)), (4, .int 4), (1, .int ((((0 + (bcX (wbl 0))) + (bcX (wbl 1))) + (bcX (wbl 2))) + (bcX (wbl 3)))), (3, .int 10), (2, .ref wb), (0, .ref w)]) hx hb dX7_blockCount_23 hl (by decide) rfl (fun ls hl => ?_)
  refine lv_iload_n hx hb dX7_blockCount_25 rfl (lv_at hl 2 rfl) ?_
  refine lv_iload hx hb dX7_blockCount_26 (lv_at hl 0 rfl) ?_
  refine cS_i CF hK hN hA hS (cut_of 2 [0, 1] hP hD rfl rfl rfl) (m_bitCount l D cI cZ cW cJ A (oX7 w wb ws wc wr wl ww wf :: aI cI wb 10 wbl :: X) (wbl 4)) (va_cwS 1 hts gX7_blockCount_J6_bitCount_0f7a4 rfl rfl rfl (by decide +kernel) ⟨Nat.le_of_ble_eq_true rfl, Nat.le_of_ble_eq_true rfl⟩) (As := [.int (wbl 4)]) (rest := [.int ((((0 + (bcX (wbl 0))) + (bcX (wbl 1))) + (bcX (wbl 2))) + (bcX (wbl 3)))]) rfl hl.1 rfl (Nat.le_of_ble_eq_true rfl) dX7_blockCount_28 ⟨Nat.le_of_ble_eq_true rfl, Nat.le_of_ble_eq_true rfl⟩ (fun r_28 _ H locs hq hP hD hS => ?_)
  have hq : r_28 = bcX (wbl 4) := hq
  subst hq
  have hP : va_P D vwCl (oX7 w wb ws wc wr wl ww wf :: aI cI wb 10 wbl :: X) H := pm_P hP 2 [0, 1] rfl
  have hD : va_D A (oX7 w wb ws wc wr wl ww wf :: aI cI wb 10 wbl :: X) := pm_D hD 2 [0, 1] rfl rfl rfl
  refine lv_iadd hx hb dX7_blockCount_31 ?_
  refine lv_istore_n (lv' := [(1, .int (((((0 + (bcX (wbl 0))) + (bcX (wbl 1))) + (bcX (wbl 2))) + (bcX (wbl 3))) + (bcX (wbl 4)))), (5, .int (wbl 4)), (4, .int 4), (3, .int 10), (2, .ref wb), (0, .ref w)]) hx hb dX7_blockCount_32 rfl hl (by decide) rfl (fun ls hl => ?_)
  refine lv_iinc (v := 5) (lv' := [(4, .int 5), (1, .int (((((0 + (bcX (wbl 0))) + (bcX (wbl 1))) + (bcX (wbl 2))) + (bcX (wbl 3))) + (bcX (wbl 4)))), (5, .int (wbl 4)), (3, .int 10), (2, .ref wb), (0, .ref w)]) hx hb dX7_blockCount_33 hl (k := 2) rfl (by decide) (by decide) rfl (fun ls hl => ?_)
  refine lv_goto (tgt := 13) hx hb dX7_blockCount_36 (by decide) ?_
  refine lv_iload hx hb dX7_blockCount_13 (lv_at hl 0 rfl) ?_
  refine lv_iload_n hx hb dX7_blockCount_15 rfl (lv_at hl 3 rfl) ?_
  have c_16 : ¬ (10 : Int32) ≤ 5 := by decide
  refine lv_icmp_ge (tgt := 39) hx hb dX7_blockCount_16 (by decide) (fun q => absurd q c_16) (fun _ => ?_)
  refine lv_aload_n hx hb dX7_blockCount_19 rfl (lv_at hl 4 rfl) ?_
  refine lv_iload hx hb dX7_blockCount_20 (lv_at hl 0 rfl) ?_
  refine va_iald hx hb hK hP 1 0 rfl rfl (show ¬ ((5 : Int32) < 0 ∨ 10 ≤ (5 : Int32).toNatClampNeg) by decide) dX7_blockCount_22 ?_
  refine top_i (y := (wbl 5)) (rfl) ?_
  refine lv_istore (lv' := [(5, .int (wbl 5)), (4, .int 5), (1, .int (((((0 + (bcX (wbl 0))) + (bcX (wbl 1))) + (bcX (wbl 2))) + (bcX (wbl 3))) + (bcX (wbl 4)))), (3, .int 10), (2, .ref wb), (0, .ref w)]) hx hb dX7_blockCount_23 hl (by decide) rfl (fun ls hl => ?_)
  refine lv_iload_n hx hb dX7_blockCount_25 rfl (lv_at hl 2 rfl) ?_
  refine lv_iload hx hb dX7_blockCount_26 (lv_at hl 0 rfl) ?_
  refine cS_i CF hK hN hA hS (cut_of 2 [0, 1] hP hD rfl rfl rfl) (m_bitCount l D cI cZ cW cJ A (oX7 w wb ws wc wr wl ww wf :: aI cI wb 10 wbl :: X) (wbl 5)) (va_cwS 1 hts gX7_blockCount_J6_bitCount_0f7a4 rfl rfl rfl (by decide +kernel) ⟨Nat.le_of_ble_eq_true rfl, Nat.le_of_ble_eq_true rfl⟩) (As := [.int (wbl 5)]) (rest := [.int (((((0 + (bcX (wbl 0))) + (bcX (wbl 1))) + (bcX (wbl 2))) + (bcX (wbl 3))) + (bcX (wbl 4)))]) rfl hl.1 rfl (Nat.le_of_ble_eq_true rfl) dX7_blockCount_28 ⟨Nat.le_of_ble_eq_true rfl, Nat.le_of_ble_eq_true rfl⟩ (fun r_28 _ H locs hq hP hD hS => ?_)
  have hq : r_28 = bcX (wbl 5) := hq
  subst hq
  have hP : va_P D vwCl (oX7 w wb ws wc wr wl ww wf :: aI cI wb 10 wbl :: X) H := pm_P hP 2 [0, 1] rfl
  have hD : va_D A (oX7 w wb ws wc wr wl ww wf :: aI cI wb 10 wbl :: X) := pm_D hD 2 [0, 1] rfl rfl rfl
  refine lv_iadd hx hb dX7_blockCount_31 ?_
  refine lv_istore_n (lv' := [(1, .int ((((((0 + (bcX (wbl 0))) + (bcX (wbl 1))) + (bcX (wbl 2))) + (bcX (wbl 3))) + (bcX (wbl 4))) + (bcX (wbl 5)))), (5, .int (wbl 5)), (4, .int 5), (3, .int 10), (2, .ref wb), (0, .ref w)]) hx hb dX7_blockCount_32 rfl hl (by decide) rfl (fun ls hl => ?_)
  refine lv_iinc (v := 6) (lv' := [(4, .int 6), (1, .int ((((((0 + (bcX (wbl 0))) + (bcX (wbl 1))) + (bcX (wbl 2))) + (bcX (wbl 3))) + (bcX (wbl 4))) + (bcX (wbl 5)))), (5, .int (wbl 5)), (3, .int 10), (2, .ref wb), (0, .ref w)]) hx hb dX7_blockCount_33 hl (k := 2) rfl (by decide) (by decide) rfl (fun ls hl => ?_)
  refine lv_goto (tgt := 13) hx hb dX7_blockCount_36 (by decide) ?_
  refine lv_iload hx hb dX7_blockCount_13 (lv_at hl 0 rfl) ?_
  refine lv_iload_n hx hb dX7_blockCount_15 rfl (lv_at hl 3 rfl) ?_
  have c_16 : ¬ (10 : Int32) ≤ 6 := by decide
  refine lv_icmp_ge (tgt := 39) hx hb dX7_blockCount_16 (by decide) (fun q => absurd q c_16) (fun _ => ?_)
  refine lv_aload_n hx hb dX7_blockCount_19 rfl (lv_at hl 4 rfl) ?_
  refine lv_iload hx hb dX7_blockCount_20 (lv_at hl 0 rfl) ?_
  refine va_iald hx hb hK hP 1 0 rfl rfl (show ¬ ((6 : Int32) < 0 ∨ 10 ≤ (6 : Int32).toNatClampNeg) by decide) dX7_blockCount_22 ?_
  refine top_i (y := (wbl 6)) (rfl) ?_
  refine lv_istore (lv' := [(5, .int (wbl 6)), (4, .int 6), (1, .int ((((((0 + (bcX (wbl 0))) + (bcX (wbl 1))) + (bcX (wbl 2))) + (bcX (wbl 3))) + (bcX (wbl 4))) + (bcX (wbl 5)))), (3, .int 10), (2, .ref wb), (0, .ref w)]) hx hb dX7_blockCount_23 hl (by decide) rfl (fun ls hl => ?_)
  refine lv_iload_n hx hb dX7_blockCount_25 rfl (lv_at hl 2 rfl) ?_
  refine lv_iload hx hb dX7_blockCount_26 (lv_at hl 0 rfl) ?_
  refine cS_i CF hK hN hA hS (cut_of 2 [0, 1] hP hD rfl rfl rfl) (m_bitCount l D cI cZ cW cJ A (oX7 w wb ws wc wr wl ww wf :: aI cI wb 10 wbl :: X) (wbl 6)) (va_cwS 1 hts gX7_blockCount_J6_bitCount_0f7a4 rfl rfl rfl (by decide +kernel) ⟨Nat.le_of_ble_eq_true rfl, Nat.le_of_ble_eq_true rfl⟩) (As := [.int (wbl 6)]) (rest := [.int ((((((0 + (bcX (wbl 0))) + (bcX (wbl 1))) + (bcX (wbl 2))) + (bcX (wbl 3))) + (bcX (wbl 4))) + (bcX (wbl 5)))]) rfl hl.1 rfl (Nat.le_of_ble_eq_true rfl) dX7_blockCount_28 ⟨Nat.le_of_ble_eq_true rfl, Nat.le_of_ble_eq_true rfl⟩ (fun r_28 _ H locs hq hP hD hS => ?_)
  have hq : r_28 = bcX (wbl 6) := hq
  subst hq
  have hP : va_P D vwCl (oX7 w wb ws wc wr wl ww wf :: aI cI wb 10 wbl :: X) H := pm_P hP 2 [0, 1] rfl
  have hD : va_D A (oX7 w wb ws wc wr wl ww wf :: aI cI wb 10 wbl :: X) := pm_D hD 2 [0, 1] rfl rfl rfl
  refine lv_iadd hx hb dX7_blockCount_31 ?_
  refine lv_istore_n (lv' := [(1, .int (((((((0 + (bcX (wbl 0))) + (bcX (wbl 1))) + (bcX (wbl 2))) + (bcX (wbl 3))) + (bcX (wbl 4))) + (bcX (wbl 5))) + (bcX (wbl 6)))), (5, .int (wbl 6)), (4, .int 6), (3, .int 10), (2, .ref wb), (0, .ref w)]) hx hb dX7_blockCount_32 rfl hl (by decide) rfl (fun ls hl => ?_)
  refine lv_iinc (v := 7) (lv' := [(4, .int 7), (1, .int (((((((0 + (bcX (wbl 0))) + (bcX (wbl 1))) + (bcX (wbl 2))) + (bcX (wbl 3))) + (bcX (wbl 4))) + (bcX (wbl 5))) + (bcX (wbl 6)))), (5, .int (wbl 6)), (3, .int 10), (2, .ref wb), (0, .ref w)]) hx hb dX7_blockCount_33 hl (k := 2) rfl (by decide) (by decide) rfl (fun ls hl => ?_)
  refine lv_goto (tgt := 13) hx hb dX7_blockCount_36 (by decide) ?_
  refine lv_iload hx hb dX7_blockCount_13 (lv_at hl 0 rfl) ?_
  refine lv_iload_n hx hb dX7_blockCount_15 rfl (lv_at hl 3 rfl) ?_
  have c_16 : ¬ (10 : Int32) ≤ 7 := by decide
  refine lv_icmp_ge (tgt := 39) hx hb dX7_blockCount_16 (by decide) (fun q => absurd q c_16) (fun _ => ?_)
  refine lv_aload_n hx hb dX7_blockCount_19 rfl (lv_at hl 4 rfl) ?_
  refine lv_iload hx hb dX7_blockCount_20 (lv_at hl 0 rfl) ?_
  refine va_iald hx hb hK hP 1 0 rfl rfl (show ¬ ((7 : Int32) < 0 ∨ 10 ≤ (7 : Int32).toNatClampNeg) by decide) dX7_blockCount_22 ?_
  refine top_i (y := (wbl 7)) (rfl) ?_
  refine lv_istore (lv' := [(5, .int (wbl 7)), (4, .int 7), (1, .int (((((((0 + (bcX (wbl 0))) + (bcX (wbl 1))) + (bcX (wbl 2))) + (bcX (wbl 3))) + (bcX (wbl 4))) + (bcX (wbl 5))) + (bcX (wbl 6)))), (3, .int 10), (2, .ref wb), (0, .ref w)]) hx hb dX7_blockCount_23 hl (by decide) rfl (fun ls hl => ?_)
  refine lv_iload_n hx hb dX7_blockCount_25 rfl (lv_at hl 2 rfl) ?_
  refine lv_iload hx hb dX7_blockCount_26 (lv_at hl 0 rfl) ?_
  refine cS_i CF hK hN hA hS (cut_of 2 [0, 1] hP hD rfl rfl rfl) (m_bitCount l D cI cZ cW cJ A (oX7 w wb ws wc wr wl ww wf :: aI cI wb 10 wbl :: X) (wbl 7)) (va_cwS 1 hts gX7_blockCount_J6_bitCount_0f7a4 rfl rfl rfl (by decide +kernel) ⟨Nat.le_of_ble_eq_true rfl, Nat.le_of_ble_eq_true rfl⟩) (As := [.int (wbl 7)]) (rest := [.int (((((((0 + (bcX (wbl 0))) + (bcX (wbl 1))) + (bcX (wbl 2))) + (bcX (wbl 3))) + (bcX (wbl 4))) + (bcX (wbl 5))) + (bcX (wbl 6)))]) rfl hl.1 rfl (Nat.le_of_ble_eq_true rfl) dX7_blockCount_28 ⟨Nat.le_of_ble_eq_true rfl, Nat.le_of_ble_eq_true rfl⟩ (fun r_28 _ H locs hq hP hD hS => ?_)
  have hq : r_28 = bcX (wbl 7) := hq
  subst hq
  have hP : va_P D vwCl (oX7 w wb ws wc wr wl ww wf :: aI cI wb 10 wbl :: X) H := pm_P hP 2 [0, 1] rfl
  have hD : va_D A (oX7 w wb ws wc wr wl ww wf :: aI cI wb 10 wbl :: X) := pm_D hD 2 [0, 1] rfl rfl rfl
  refine lv_iadd hx hb dX7_blockCount_31 ?_
  refine lv_istore_n (lv' := [(1, .int ((((((((0 + (bcX (wbl 0))) + (bcX (wbl 1))) + (bcX (wbl 2))) + (bcX (wbl 3))) + (bcX (wbl 4))) + (bcX (wbl 5))) + (bcX (wbl 6))) + (bcX (wbl 7)))), (5, .int (wbl 7)), (4, .int 7), (3, .int 10), (2, .ref wb), (0, .ref w)]) hx hb dX7_blockCount_32 rfl hl (by decide) rfl (fun ls hl => ?_)
  refine lv_iinc (v := 8) (lv' := [(4, .int 8), (1, .int ((((((((0 + (bcX (wbl 0))) + (bcX (wbl 1))) + (bcX (wbl 2))) + (bcX (wbl 3))) + (bcX (wbl 4))) + (bcX (wbl 5))) + (bcX (wbl 6))) + (bcX (wbl 7)))), (5, .int (wbl 7)), (3, .int 10), (2, .ref wb), (0, .ref w)]) hx hb dX7_blockCount_33 hl (k := 2) rfl (by decide) (by decide) rfl (fun ls hl => ?_)
  refine lv_goto (tgt := 13) hx hb dX7_blockCount_36 (by decide) ?_
  refine lv_iload hx hb dX7_blockCount_13 (lv_at hl 0 rfl) ?_
  refine lv_iload_n hx hb dX7_blockCount_15 rfl (lv_at hl 3 rfl) ?_
  have c_16 : ¬ (10 : Int32) ≤ 8 := by decide
  refine lv_icmp_ge (tgt := 39) hx hb dX7_blockCount_16 (by decide) (fun q => absurd q c_16) (fun _ => ?_)
  refine lv_aload_n hx hb dX7_blockCount_19 rfl (lv_at hl 4 rfl) ?_
  refine lv_iload hx hb dX7_blockCount_20 (lv_at hl 0 rfl) ?_
  refine va_iald hx hb hK hP 1 0 rfl rfl (show ¬ ((8 : Int32) < 0 ∨ 10 ≤ (8 : Int32).toNatClampNeg) by decide) dX7_blockCount_22 ?_
  refine top_i (y := (wbl 8)) (rfl) ?_
  refine lv_istore (lv' := [(5, .int (wbl 8)), (4, .int 8), (1, .int ((((((((0 + (bcX (wbl 0))) + (bcX (wbl 1))) + (bcX (wbl 2))) + (bcX (wbl 3))) + (bcX (wbl 4))) + (bcX (wbl 5))) + (bcX (wbl 6))) + (bcX (wbl 7)))), (3, .int 10), (2, .ref wb), (0, .ref w)]) hx hb dX7_blockCount_23 hl (by decide) rfl (fun ls hl => ?_)
  refine lv_iload_n hx hb dX7_blockCount_25 rfl (lv_at hl 2 rfl) ?_
  refine lv_iload hx hb dX7_blockCount_26 (lv_at hl 0 rfl) ?_
  refine cS_i CF hK hN hA hS (cut_of 2 [0, 1] hP hD rfl rfl rfl) (m_bitCount l D cI cZ cW cJ A (oX7 w wb ws wc wr wl ww wf :: aI cI wb 10 wbl :: X) (wbl 8)) (va_cwS 1 hts gX7_blockCount_J6_bitCount_0f7a4 rfl rfl rfl (by decide +kernel) ⟨Nat.le_of_ble_eq_true rfl, Nat.le_of_ble_eq_true rfl⟩) (As := [.int (wbl 8)]) (rest := [.int ((((((((0 + (bcX (wbl 0))) + (bcX (wbl 1))) + (bcX (wbl 2))) + (bcX (wbl 3))) + (bcX (wbl 4))) + (bcX (wbl 5))) + (bcX (wbl 6))) + (bcX (wbl 7)))]) rfl hl.1 rfl (Nat.le_of_ble_eq_true rfl) dX7_blockCount_28 ⟨Nat.le_of_ble_eq_true rfl, Nat.le_of_ble_eq_true rfl⟩ (fun r_28 _ H locs hq hP hD hS => ?_)
  have hq : r_28 = bcX (wbl 8) := hq
  subst hq
  have hP : va_P D vwCl (oX7 w wb ws wc wr wl ww wf :: aI cI wb 10 wbl :: X) H := pm_P hP 2 [0, 1] rfl
  have hD : va_D A (oX7 w wb ws wc wr wl ww wf :: aI cI wb 10 wbl :: X) := pm_D hD 2 [0, 1] rfl rfl rfl
  refine lv_iadd hx hb dX7_blockCount_31 ?_
  refine lv_istore_n (lv' := [(1, .int (((((((((0 + (bcX (wbl 0))) + (bcX (wbl 1))) + (bcX (wbl 2))) + (bcX (wbl 3))) + (bcX (wbl 4))) + (bcX (wbl 5))) + (bcX (wbl 6))) + (bcX (wbl 7))) + (bcX (wbl 8)))), (5, .int (wbl 8)), (4, .int 8), (3, .int 10), (2, .ref wb), (0, .ref w)]) hx hb dX7_blockCount_32 rfl hl (by decide) rfl (fun ls hl => ?_)
  refine lv_iinc (v := 9) (lv' := [(4, .int 9), (1, .int (((((((((0 + (bcX (wbl 0))) + (bcX (wbl 1))) + (bcX (wbl 2))) + (bcX (wbl 3))) + (bcX (wbl 4))) + (bcX (wbl 5))) + (bcX (wbl 6))) + (bcX (wbl 7))) + (bcX (wbl 8)))), (5, .int (wbl 8)), (3, .int 10), (2, .ref wb), (0, .ref w)]) hx hb dX7_blockCount_33 hl (k := 2) rfl (by decide) (by decide) rfl (fun ls hl => ?_)
  refine lv_goto (tgt := 13) hx hb dX7_blockCount_36 (by decide) ?_
  refine lv_iload hx hb dX7_blockCount_13 (lv_at hl 0 rfl) ?_
  refine lv_iload_n hx hb dX7_blockCount_15 rfl (lv_at hl 3 rfl) ?_
  have c_16 : ¬ (10 : Int32) ≤ 9 := by decide
  refine lv_icmp_ge (tgt := 39) hx hb dX7_blockCount_16 (by decide) (fun q => absurd q c_16) (fun _ => ?_)
  refine lv_aload_n hx hb dX7_blockCount_19 rfl (lv_at hl 4 rfl) ?_
  refine lv_iload hx hb dX7_blockCount_20 (lv_at hl 0 rfl) ?_
  refine va_iald hx hb hK hP 1 0 rfl rfl (show ¬ ((9 : Int32) < 0 ∨ 10 ≤ (9 : Int32).toNatClampNeg) by decide) dX7_blockCount_22 ?_
  refine top_i (y := (wbl 9)) (rfl) ?_
  refine lv_istore (lv' := [(5, .int (wbl 9)), (4, .int 9), (1, .int (((((((((0 + (bcX (wbl 0))) + (bcX (wbl 1))) + (bcX (wbl 2))) + (bcX (wbl 3))) + (bcX (wbl 4))) + (bcX (wbl 5))) + (bcX (wbl 6))) + (bcX (wbl 7))) + (bcX (wbl 8)))), (3, .int 10), (2, .ref wb), (0, .ref w)]) hx hb dX7_blockCount_23 hl (by decide) rfl (fun ls hl => ?_)
  refine lv_iload_n hx hb dX7_blockCount_25 rfl (lv_at hl 2 rfl) ?_
  refine lv_iload hx hb dX7_blockCount_26 (lv_at hl 0 rfl) ?_
  refine cS_i CF hK hN hA hS (cut_of 2 [0, 1] hP hD rfl rfl rfl) (m_bitCount l D cI cZ cW cJ A (oX7 w wb ws wc wr wl ww wf :: aI cI wb 10 wbl :: X) (wbl 9)) (va_cwS 1 hts gX7_blockCount_J6_bitCount_0f7a4 rfl rfl rfl (by decide +kernel) ⟨Nat.le_of_ble_eq_true rfl, Nat.le_of_ble_eq_true rfl⟩) (As := [.int (wbl 9)]) (rest := [.int (((((((((0 + (bcX (wbl 0))) + (bcX (wbl 1))) + (bcX (wbl 2))) + (bcX (wbl 3))) + (bcX (wbl 4))) + (bcX (wbl 5))) + (bcX (wbl 6))) + (bcX (wbl 7))) + (bcX (wbl 8)))]) rfl hl.1 rfl (Nat.le_of_ble_eq_true rfl) dX7_blockCount_28 ⟨Nat.le_of_ble_eq_true rfl, Nat.le_of_ble_eq_true rfl⟩ (fun r_28 _ H locs hq hP hD hS => ?_)
  have hq : r_28 = bcX (wbl 9) := hq
  subst hq
  have hP : va_P D vwCl (oX7 w wb ws wc wr wl ww wf :: aI cI wb 10 wbl :: X) H := pm_P hP 2 [0, 1] rfl
  have hD : va_D A (oX7 w wb ws wc wr wl ww wf :: aI cI wb 10 wbl :: X) := pm_D hD 2 [0, 1] rfl rfl rfl
  refine lv_iadd hx hb dX7_blockCount_31 ?_
  refine lv_istore_n (lv' := [(1, .int ((((((((((0 + (bcX (wbl 0))) + (bcX (wbl 1))) + (bcX (wbl 2))) + (bcX (wbl 3))) + (bcX (wbl 4))) + (bcX (wbl 5))) + (bcX (wbl 6))) + (bcX (wbl 7))) + (bcX (wbl 8))) + (bcX (wbl 9)))), (5, .int (wbl 9)), (4, .int 9), (3, .int 10), (2, .ref wb), (0, .ref w)]) hx hb dX7_blockCount_32 rfl hl (by decide) rfl (fun ls hl => ?_)
  refine lv_iinc (v := 10) (lv' := [(4, .int 10), (1, .int ((((((((((0 + (bcX (wbl 0))) + (bcX (wbl 1))) + (bcX (wbl 2))) + (bcX (wbl 3))) + (bcX (wbl 4))) + (bcX (wbl 5))) + (bcX (wbl 6))) + (bcX (wbl 7))) + (bcX (wbl 8))) + (bcX (wbl 9)))), (5, .int (wbl 9)), (3, .int 10), (2, .ref wb), (0, .ref w)]) hx hb dX7_blockCount_33 hl (k := 2) rfl (by decide) (by decide) rfl (fun ls hl => ?_)
  refine lv_goto (tgt := 13) hx hb dX7_blockCount_36 (by decide) ?_
  refine lv_iload hx hb dX7_blockCount_13 (lv_at hl 0 rfl) ?_
  refine lv_iload_n hx hb dX7_blockCount_15 rfl (lv_at hl 3 rfl) ?_
  have c_16 : (10 : Int32) ≤ 10 := by decide
  refine lv_icmp_ge (tgt := 39) hx hb dX7_blockCount_16 (by decide) (fun _ => ?_) (fun q => absurd c_16 q)
  refine lv_iload_n hx hb dX7_blockCount_39 rfl (lv_at hl 1 rfl) ?_
  exact W.iret (v := ((((((((((0 + (bcX (wbl 0))) + (bcX (wbl 1))) + (bcX (wbl 2))) + (bcX (wbl 3))) + (bcX (wbl 4))) + (bcX (wbl 5))) + (bcX (wbl 6))) + (bcX (wbl 7))) + (bcX (wbl 8))) + (bcX (wbl 9)))) hx hb hr (fun t9 ht9 hW9 => ⟨⟨((((((((((0 + (bcX (wbl 0))) + (bcX (wbl 1))) + (bcX (wbl 2))) + (bcX (wbl 3))) + (bcX (wbl 4))) + (bcX (wbl 5))) + (bcX (wbl 6))) + (bcX (wbl 7))) + (bcX (wbl 8))) + (bcX (wbl 9))), (), rfl, rfl, by rw [ht9]; exact hP, hD⟩, hS.F ht9⟩) hS.2.2 dX7_blockCount_40
set_option maxHeartbeats 4000000 in
set_option maxRecDepth 100000 in
theorem m_letRunnerFall (l : Launch) (D : va_G) (cI cZ cW cJ : ClassId) (A : Nat → Prop) (X : va_W) (w wb ws : Nat) (wc wr wl ww wf : Int32) (wbl : Nat → Int32) : Met l yX7_letRunnerFall wsX7_letRunnerFall ({ frames := 2, cells := 0, slots := 0, locals := 44 }) (va_Pc [.ref w] (wd D (tyL cI cZ cW cJ) A (oX7 w wb ws wc wr wl ww wf :: aI cI wb 10 wbl :: X))) (va_Qv (fun (u : Int32) => u = fallB (blkX wbl) wc 10 wr) (fun (u : Int32) t => wq D A (oX7 w wb ws wc u wl ww wf :: aI cI wb 10 wbl :: X) t) A) 0 0 A := by
  refine Met.ofW (cc := cX7_letRunnerFall) (maxL := 2) (ret := none) (by decide) rfl ?_
  intro p e s m args below meth c s₁ B hml hv
  obtain ⟨rfl, hsz9, hP, hK, hD, hN⟩ := hv
  have hx := B.exec
  have hb := B.bytes
  have hr := B.returns
  have hts := atoms_spec (ws := wsX7_letRunnerFall) B.pre
  have hown : s.vm.findClass RX7 = some m.cls := findClass_of_methodNamed B.named
  have hlocks := B.notSynchronized
  have CF : CallFix p m c cX7_letRunnerFall 2 s _ wsX7_letRunnerFall RX7 := ⟨hx, hb, hml, hown, hts⟩
  have hA : ∀ q : Nat, s.heap.size ≤ q → A q := hsz9
  have hS : va_S A s.heap s.heap [] := va_S.rf
  have hiX7 : ∀ w ∈ u_ws RX7 TX7 7, w ∈ wsX7_letRunnerFall := fun _ h => List.mem_cons_of_mem _ (List.mem_append_right _ (h))
  have hl := lv_entry ([.ref w]) (n := 2) (Nat.le_of_ble_eq_true rfl)
  rw [lg_entry_eq]
  generalize (lg_sl ([.ref w]) ++ List.replicate (2 - (lg_sl ([.ref w])).length) Slot.unset).toArray = ls at hl ⊢
  have hl : lv_has ls 2 [(0, .ref w)] := hl
  show W p l e ({ frames := 2, cells := 0, slots := 0, locals := 44 } : Room) s m (([.ref w] : List Value).toArray) below meth c s.heap [] 0 0 (MQ below (va_Qv (fun (u : Int32) => u = fallB (blkX wbl) wc 10 wr) (fun (u : Int32) t => wq D A (oX7 w wb ws wc u wl ww wf :: aI cI wb 10 wbl :: X) t) A) (([.ref w] : List Value).toArray) s 0 0 A) (F0 m 0 ls [])
  refine lv_iconst (v := 0) hx hb dX7_letRunnerFall_0 (by decide) ?_
  refine lv_istore_n (lv' := [(1, .int 0), (0, .ref w)]) hx hb dX7_letRunnerFall_1 rfl hl (by decide) rfl (fun ls hl => ?_)
  have loop_2 : ∀ (nfu : Nat) (i : Nat) (y : Int32) (hn_2 : 10 - i < nfu) (hi : i ≤ 10) (hv : fallB (blkX wbl) wc (10 - i) y = fallB (blkX wbl) wc 10 wr) (H : Heap) (locs : List Loc) (hP : va_P D vwCl (oX7 w wb ws wc y wl ww wf :: aI cI wb 10 wbl :: X) H) (hD : va_D A (oX7 w wb ws wc y wl ww wf :: aI cI wb 10 wbl :: X)) (hS : va_S A s.heap H locs) (ls : Array Slot) (hl : lv_has ls 2 [(1, .int (nI i)), (0, .ref w)]), W p l e ({ frames := 2, cells := 0, slots := 0, locals := 44 } : Room) s m (([.ref w] : List Value).toArray) below meth c H locs 0 0 (MQ below (va_Qv (fun (u : Int32) => u = fallB (blkX wbl) wc 10 wr) (fun (u : Int32) t => wq D A (oX7 w wb ws wc u wl ww wf :: aI cI wb 10 wbl :: X) t) A) (([.ref w] : List Value).toArray) s 0 0 A) (F0 m 2 ls []) := by
    intro nfu
    induction nfu with
    | zero => intro i y hn_2; exact absurd hn_2 (Nat.not_lt_zero _)
    | succ nfu ih_2 =>
      intro i y hn_2 hi hv H locs hP hD hS ls hl
      refine lv_iload_n hx hb dX7_letRunnerFall_2 rfl (lv_at hl 0 rfl) ?_
      refine lv_bipush (v := 10) hx hb dX7_letRunnerFall_3 (by decide) ?_
      refine lv_icmp_ge (tgt := 39) hx hb dX7_letRunnerFall_5 (by decide) (fun c_5 => ?_) (fun c_5 => ?_)
      · exact W.vret hx hb hr (fun t9 ht9 hW9 => ⟨⟨y, rfl, by have h := le_of_ge (a := 10) (b := i) (by decide) (by omega) c_5; rw [← hv, show 10 - i = 0 by omega]; rfl, by rw [ht9]; exact hP, hD⟩, hS.F ht9⟩) hS.2.2 dX7_letRunnerFall_39
      · refine lv_aload_n hx hb dX7_letRunnerFall_8 rfl (lv_at hl 1 rfl) ?_
        refine lv_aload_n hx hb dX7_letRunnerFall_9 rfl (lv_at hl 1 rfl) ?_
        refine va_get (D := D) (ci := 7) (v := .int wc) (C := RX7) (T := TX7) (N := 7) hx hb hts hiX7 hown hK hP 0 rfl rfl 2 (by decide) (hts (.fieldLink RX7 24 "LedgeLeaps$World" "column" "I") (List.mem_of_getElem? (i := 1) rfl)) (fun _ h9 => h9) rfl dX7_letRunnerFall_10 ?_
        refine lv_aload_n hx hb dX7_letRunnerFall_13 rfl (lv_at hl 1 rfl) ?_
        refine va_get (D := D) (ci := 7) (v := .int y) (C := RX7) (T := TX7) (N := 7) hx hb hts hiX7 hown hK hP 0 rfl rfl 3 (by decide) (hts (.fieldLink RX7 28 "LedgeLeaps$World" "row" "I") (List.mem_of_getElem? (i := 2) rfl)) (fun _ h9 => h9) rfl dX7_letRunnerFall_14 ?_
        refine cV_i CF hK hN hA hS (cut_of 2 [0, 1] hP hD rfl rfl rfl) (m_canStand l D cI cZ cW cJ A (X) w wb ws wc y wl ww wf wbl wc y) (cwV 2 hts gX7_letRunnerFall_X7_canStand rfl rfl rfl (by decide +kernel) ⟨Nat.le_of_ble_eq_true rfl, Nat.le_of_ble_eq_true rfl⟩) (As := [.int wc, .int y]) (rest := []) (ci := 7) (q0 := 0) rfl rfl rfl hl.1 rfl (Nat.le_of_ble_eq_true rfl) dX7_letRunnerFall_17 ⟨Nat.le_of_ble_eq_true rfl, Nat.le_of_ble_eq_true rfl⟩ (fun r_17 _ H locs hq hP hD hS => ?_)
        have hq : r_17 = bI (stB (blkX wbl) wc y) := hq
        subst hq
        have hP : va_P D vwCl (oX7 w wb ws wc y wl ww wf :: aI cI wb 10 wbl :: X) H := pm_P hP 2 [0, 1] rfl
        have hD : va_D A (oX7 w wb ws wc y wl ww wf :: aI cI wb 10 wbl :: X) := pm_D hD 2 [0, 1] rfl rfl rfl
        refine lv_if_ne (tgt := 39) hx hb dX7_letRunnerFall_20 (by decide) (fun c_20 => ?_) (fun c_20 => ?_)
        · exact W.vret hx hb hr (fun t9 ht9 hW9 => ⟨⟨y, rfl, by have h := lt_of_nge (a := 10) (b := i) (by decide) (by omega) c_5; rw [← hv, show 10 - i = (10 - (i + 1)) + 1 by omega, fallB, if_pos (bt_c c_20)], by rw [ht9]; exact hP, hD⟩, hS.F ht9⟩) hS.2.2 dX7_letRunnerFall_39
        · refine lv_aload_n hx hb dX7_letRunnerFall_23 rfl (lv_at hl 1 rfl) ?_
          refine lv_dup hx hb dX7_letRunnerFall_24 rfl ?_
          refine va_get (D := D) (ci := 7) (v := .int y) (C := RX7) (T := TX7) (N := 7) hx hb hts hiX7 hown hK hP 0 rfl rfl 3 (by decide) (hts (.fieldLink RX7 28 "LedgeLeaps$World" "row" "I") (List.mem_of_getElem? (i := 2) rfl)) (fun _ h9 => h9) rfl dX7_letRunnerFall_25 ?_
          refine lv_iconst (v := 1) hx hb dX7_letRunnerFall_28 (by decide) ?_
          refine lv_isub hx hb dX7_letRunnerFall_29 ?_
          refine va_put (D := D) (ci := 7) (v := .int (y - 1)) (ty := .int) (C := RX7) (T := TX7) (N := 7) hx hb hts hiX7 tyX7 tyX7_ok nmX7 hown hK hP hD hS 0 rfl rfl 3 (by decide) (hts (.fieldLink RX7 28 "LedgeLeaps$World" "row" "I") (List.mem_of_getElem? (i := 2) rfl)) (fun _ h9 => h9) rfl (by decide +kernel) rfl rfl (Nat.le_of_ble_eq_true rfl) dX7_letRunnerFall_30 (fun H locs hP hD hS => ?_)
          have hP : va_P D vwCl (oX7 w wb ws wc (y - 1) wl ww wf :: aI cI wb 10 wbl :: X) H := hP
          have hD : va_D A (oX7 w wb ws wc (y - 1) wl ww wf :: aI cI wb 10 wbl :: X) := hD
          refine lv_iinc (v := (nI (i + 1))) (lv' := [(1, .int (nI (i + 1))), (0, .ref w)]) hx hb dX7_letRunnerFall_33 hl (k := 0) rfl (nI_1 i) (by decide) rfl (fun ls hl => ?_)
          refine lv_goto (tgt := 2) hx hb dX7_letRunnerFall_36 (by decide) ?_
          exact ih_2 (i + 1) (y - 1) (by have h := lt_of_nge (a := 10) (b := i) (by decide) (by omega) c_5; omega) (by have h := lt_of_nge (a := 10) (b := i) (by decide) (by omega) c_5; omega) (by have h := lt_of_nge (a := 10) (b := i) (by decide) (by omega) c_5; rw [← hv, show 10 - i = (10 - (i + 1)) + 1 by omega, fallB, if_neg (by simp [bf_c c_20])]) _ _ (hP) (hD) hS _ (lv_sub hl [0, 1] rfl)
  exact loop_2 _ 0 wr (Nat.lt_succ_self _) (by omega) (rfl) _ _ hP hD hS _ (lv_sub hl [0, 1] rfl)
