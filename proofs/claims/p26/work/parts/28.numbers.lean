set_option maxHeartbeats 4000000 in
set_option maxRecDepth 100000 in
theorem m_knowMap (l : Launch) (D : va_G) (cI cZ cW cJ : ClassId) (A : Nat → Prop) (X : va_W) (xo hi sn tx f mm re ro : Nat) (mk rk : Bool) (mro mfi mle mlo : Nat) (gro gfi gle glo : Nat → Int32) (ms : Int32) (w wb ws : Nat) (wc wr wl ww wf : Int32) (wbl : Nat → Int32) (hC : mk = true → MapOK (blkX wbl) ms gro gfi gle glo) : Met l yX8_knowMap wsX8_knowMap ({ frames := 3, cells := 0, slots := 0, locals := 69 }) (va_Pc [.ref xo] (wd D (tyL cI cZ cW cJ) A (oX8 xo w hi sn tx f mm re ro (bI mk) (bI rk) :: oX2 mm mro mfi mle ms mlo :: aI cI mro 100 gro :: aI cI mfi 100 gfi :: aI cI mle 100 gle :: aI cI mlo 200 glo :: oX7 w wb ws wc wr wl ww wf :: aI cI wb 10 wbl :: X))) (va_Qv (fun (u : Int32 × (Nat → Int32) × (Nat → Int32) × (Nat → Int32) × (Nat → Int32)) => MapOK (blkX wbl) u.1 u.2.1 u.2.2.1 u.2.2.2.1 u.2.2.2.2) (fun (u : Int32 × (Nat → Int32) × (Nat → Int32) × (Nat → Int32) × (Nat → Int32)) t => wq D A (oX8 xo w hi sn tx f mm re ro (bI true) (bI rk) :: oX2 mm mro mfi mle u.1 mlo :: aI cI mro 100 u.2.1 :: aI cI mfi 100 u.2.2.1 :: aI cI mle 100 u.2.2.2.1 :: aI cI mlo 200 u.2.2.2.2 :: oX7 w wb ws wc wr wl ww wf :: aI cI wb 10 wbl :: X) t) A) 0 0 A := by
  refine Met.ofW (cc := cX8_knowMap) (maxL := 1) (ret := none) (by decide) rfl ?_
  intro p e s m args below meth c s₁ B hml hv
  obtain ⟨rfl, hsz9, hP, hK, hD, hN⟩ := hv
  have hx := B.exec
  have hb := B.bytes
  have hr := B.returns
  have hts := atoms_spec (ws := wsX8_knowMap) B.pre
  have hown : s.vm.findClass RX8 = some m.cls := findClass_of_methodNamed B.named
  have hlocks := B.notSynchronized
  have CF : CallFix p m c cX8_knowMap 1 s _ wsX8_knowMap RX8 := ⟨hx, hb, hml, hown, hts⟩
  have hA : ∀ q : Nat, s.heap.size ≤ q → A q := hsz9
  have hS : va_S A s.heap s.heap [] := va_S.rf
  have hiX8 : ∀ w ∈ u_ws RX8 TX8 10, w ∈ wsX8_knowMap := fun _ h => List.mem_cons_of_mem _ (List.mem_append_left _ (List.mem_append_left _ (List.mem_append_right _ (h))))
  have hl := lv_entry ([.ref xo]) (n := 1) (Nat.le_of_ble_eq_true rfl)
  rw [lg_entry_eq]
  generalize (lg_sl ([.ref xo]) ++ List.replicate (1 - (lg_sl ([.ref xo])).length) Slot.unset).toArray = ls at hl ⊢
  have hl : lv_has ls 1 [(0, .ref xo)] := hl
  show W p l e ({ frames := 3, cells := 0, slots := 0, locals := 69 } : Room) s m (([.ref xo] : List Value).toArray) below meth c s.heap [] 0 0 (MQ below (va_Qv (fun (u : Int32 × (Nat → Int32) × (Nat → Int32) × (Nat → Int32) × (Nat → Int32)) => MapOK (blkX wbl) u.1 u.2.1 u.2.2.1 u.2.2.2.1 u.2.2.2.2) (fun (u : Int32 × (Nat → Int32) × (Nat → Int32) × (Nat → Int32) × (Nat → Int32)) t => wq D A (oX8 xo w hi sn tx f mm re ro (bI true) (bI rk) :: oX2 mm mro mfi mle u.1 mlo :: aI cI mro 100 u.2.1 :: aI cI mfi 100 u.2.2.1 :: aI cI mle 100 u.2.2.2.1 :: aI cI mlo 200 u.2.2.2.2 :: oX7 w wb ws wc wr wl ww wf :: aI cI wb 10 wbl :: X) t) A) (([.ref xo] : List Value).toArray) s 0 0 A) (F0 m 0 ls [])
  refine lv_aload_n hx hb dX8_knowMap_0 rfl (lv_at hl 0 rfl) ?_
  refine va_get (D := D) (ci := 8) (v := .int (bI mk)) (C := RX8) (T := TX8) (N := 10) hx hb hts hiX8 hown hK hP 0 rfl rfl 8 (by decide) (hts (.fieldLink RX8 299 "LedgeLeaps" "mapIsKnown" "Z") (List.mem_of_getElem? (i := 1) rfl)) (fun _ h9 => h9) rfl dX8_knowMap_1 ?_
  refine lv_if_ne (tgt := 23) hx hb dX8_knowMap_4 (by decide) (fun c_4 => ?_) (fun c_4 => ?_)
  · have hmk : mk = true := bt_c c_4
    rw [hmk] at hP hD
    exact W.vret hx hb hr (fun t9 ht9 hW9 => ⟨⟨(ms, gro, gfi, gle, glo), rfl, hC hmk, by rw [ht9]; exact hP, hD⟩, hS.F ht9⟩) hS.2.2 dX8_knowMap_23
  · refine lv_aload_n hx hb dX8_knowMap_7 rfl (lv_at hl 0 rfl) ?_
    refine va_get (D := D) (ci := 8) (v := .ref mm) (C := RX8) (T := TX8) (N := 10) hx hb hts hiX8 hown hK hP 0 rfl rfl 5 (by decide) (hts (.fieldLink RX8 47 "LedgeLeaps" "map" "LLedgeLeaps$LedgeMap;") (List.mem_of_getElem? (i := 2) rfl)) (fun _ h9 => h9) rfl dX8_knowMap_8 ?_
    refine lv_aload_n hx hb dX8_knowMap_11 rfl (lv_at hl 0 rfl) ?_
    refine va_get (D := D) (ci := 8) (v := .ref w) (C := RX8) (T := TX8) (N := 10) hx hb hts hiX8 hown hK hP 0 rfl rfl 0 (by decide) (hts (.fieldLink RX8 12 "LedgeLeaps" "world" "LLedgeLeaps$World;") (List.mem_of_getElem? (i := 3) rfl)) (fun _ h9 => h9) rfl dX8_knowMap_12 ?_
    refine cV_v CF hK hN hA hS (cut_of 8 [1, 2, 3, 4, 5, 6, 7, 0] hP hD rfl rfl rfl) (m_draw l D cI cZ cW cJ A (oX8 xo w hi sn tx f mm re ro (bI mk) (bI rk) :: X) mm mro mfi mle mlo gro gfi gle glo ms w wb ws wc wr wl ww wf wbl) (cwV 1 hts gX8_knowMap_X2_draw rfl rfl rfl (by decide +kernel) ⟨Nat.le_of_ble_eq_true rfl, Nat.le_of_ble_eq_true rfl⟩) (As := [.ref w]) (rest := []) (ci := 2) (q0 := 0) rfl rfl rfl hl.1 rfl (Nat.le_of_ble_eq_true rfl) dX8_knowMap_15 ⟨Nat.le_of_ble_eq_true rfl, Nat.le_of_ble_eq_true rfl⟩ (fun _ H locs hq hP hD hS => ?_)
    have hP : va_P D vwCl (oX8 xo w hi sn tx f mm re ro (bI mk) (bI rk) :: oX2 mm mro mfi mle (nI (cnt (SB (blkX wbl)) (200))) mlo :: aI cI mro 100 (scA (SB (blkX wbl)) (fun j => nI (j / 20)) gro (200)) :: aI cI mfi 100 (scA (SB (blkX wbl)) (fun j => nI (j % 20)) gfi (200)) :: aI cI mle 100 (leA (SB (blkX wbl)) gle (200)) :: aI cI mlo 200 (loA (SB (blkX wbl)) glo (200)) :: oX7 w wb ws wc wr wl ww wf :: aI cI wb 10 wbl :: X) H := pm_P hP 8 [7, 0, 1, 2, 3, 4, 5, 6] rfl
    have hD : va_D A (oX8 xo w hi sn tx f mm re ro (bI mk) (bI rk) :: oX2 mm mro mfi mle (nI (cnt (SB (blkX wbl)) (200))) mlo :: aI cI mro 100 (scA (SB (blkX wbl)) (fun j => nI (j / 20)) gro (200)) :: aI cI mfi 100 (scA (SB (blkX wbl)) (fun j => nI (j % 20)) gfi (200)) :: aI cI mle 100 (leA (SB (blkX wbl)) gle (200)) :: aI cI mlo 200 (loA (SB (blkX wbl)) glo (200)) :: oX7 w wb ws wc wr wl ww wf :: aI cI wb 10 wbl :: X) := pm_D hD 8 [7, 0, 1, 2, 3, 4, 5, 6] rfl rfl rfl
    refine lv_aload_n hx hb dX8_knowMap_18 rfl (lv_at hl 0 rfl) ?_
    refine lv_iconst (v := 1) hx hb dX8_knowMap_19 (by decide) ?_
    refine va_put (D := D) (ci := 8) (v := .int 1) (ty := .boolean) (C := RX8) (T := TX8) (N := 10) hx hb hts hiX8 tyX8 tyX8_ok nmX8 hown hK hP hD hS 0 rfl rfl 8 (by decide) (hts (.fieldLink RX8 299 "LedgeLeaps" "mapIsKnown" "Z") (List.mem_of_getElem? (i := 1) rfl)) (fun _ h9 => h9) rfl (by decide +kernel) rfl rfl (Nat.le_of_ble_eq_true rfl) dX8_knowMap_20 (fun H locs hP hD hS => ?_)
    have hP : va_P D vwCl (oX8 xo w hi sn tx f mm re ro 1 (bI rk) :: oX2 mm mro mfi mle (nI (cnt (SB (blkX wbl)) (200))) mlo :: aI cI mro 100 (scA (SB (blkX wbl)) (fun j => nI (j / 20)) gro (200)) :: aI cI mfi 100 (scA (SB (blkX wbl)) (fun j => nI (j % 20)) gfi (200)) :: aI cI mle 100 (leA (SB (blkX wbl)) gle (200)) :: aI cI mlo 200 (loA (SB (blkX wbl)) glo (200)) :: oX7 w wb ws wc wr wl ww wf :: aI cI wb 10 wbl :: X) H := hP
    have hD : va_D A (oX8 xo w hi sn tx f mm re ro 1 (bI rk) :: oX2 mm mro mfi mle (nI (cnt (SB (blkX wbl)) (200))) mlo :: aI cI mro 100 (scA (SB (blkX wbl)) (fun j => nI (j / 20)) gro (200)) :: aI cI mfi 100 (scA (SB (blkX wbl)) (fun j => nI (j % 20)) gfi (200)) :: aI cI mle 100 (leA (SB (blkX wbl)) gle (200)) :: aI cI mlo 200 (loA (SB (blkX wbl)) glo (200)) :: oX7 w wb ws wc wr wl ww wf :: aI cI wb 10 wbl :: X) := hD
    exact W.vret hx hb hr (fun t9 ht9 hW9 => ⟨⟨((nI (cnt (SB (blkX wbl)) (200))), (scA (SB (blkX wbl)) (fun j => nI (j / 20)) gro (200)), (scA (SB (blkX wbl)) (fun j => nI (j % 20)) gfi (200)), (leA (SB (blkX wbl)) gle (200)), (loA (SB (blkX wbl)) glo (200))), rfl, MapOK.of (blkX wbl) gro gfi gle glo, by rw [ht9]; exact hP, hD⟩, hS.F ht9⟩) hS.2.2 dX8_knowMap_23
set_option maxHeartbeats 4000000 in
set_option maxRecDepth 100000 in
theorem m_knowReaches (l : Launch) (D : va_G) (cI cZ cW cJ : ClassId) (A : Nat → Prop) (X : va_W) (xo hi sn tx f mm re ro : Nat) (mk rk : Bool) (mro mfi mle mlo : Nat) (gro gfi gle glo : Nat → Int32) (ms : Int32) (w wb ws : Nat) (wc wr wl ww wf : Int32) (wbl : Nat → Int32) (wse : Nat → Int32) (rl rf : Nat) (rs : Int32) (glr : Nat → Int32) (fc fr ft fo fm fs fi : Int32) (rog rsp rqu rta : Nat) (rut : Int32) (gog gsp gta : Nat → Int32) (hC : CachK (blkX wbl) (wse 0) (wse 1) (wse 2) mk rk ms gro gfi gle glo rs glr gog gsp rut gta) (hse : SeR (wse 0) (wse 1) (wse 2)) : Met l yX8_knowReaches wsX8_knowReaches ({ frames := 5, cells := 0, slots := 0, locals := 125 }) (va_Pc [.ref xo] (wd D (tyL cI cZ cW cJ) A (oX8 xo w hi sn tx f mm re ro (bI mk) (bI rk) :: oX2 mm mro mfi mle ms mlo :: aI cI mro 100 gro :: aI cI mfi 100 gfi :: aI cI mle 100 gle :: aI cI mlo 200 glo :: oX7 w wb ws wc wr wl ww wf :: aI cI wb 10 wbl :: aI cI ws 3 wse :: oX4 re rs rl rf :: aI cI rl 10000 glr :: oX0 rf fc fr ft fo fm fs fi :: oX5 ro rog rsp rqu rta rut :: aI cI rog 4 gog :: aI cI rsp 400 gsp :: aI cI rta 10000 gta :: X))) (va_Qv (fun (u : Int32 × (Nat → Int32) × (Nat → Int32) × (Nat → Int32) × (Nat → Int32) × Int32 × (Nat → Int32) × Int32 × Int32 × Int32 × Int32 × Int32 × Int32 × Int32 × (Nat → Int32) × Int32) => MapOK (blkX wbl) u.1 u.2.1 u.2.2.1 u.2.2.2.1 u.2.2.2.2.1 ∧ RchOK (blkX wbl) (wse 0) (wse 1) (wse 2) u.2.2.2.2.2.1 u.2.2.2.2.2.2.1 ∧ RtsOK (nL (blkX wbl)) u.2.2.2.2.2.2.1 u.2.2.2.2.2.2.2.2.2.2.2.2.2.2.1 gsp u.2.2.2.2.2.2.2.2.2.2.2.2.2.2.2 gta) (fun (u : Int32 × (Nat → Int32) × (Nat → Int32) × (Nat → Int32) × (Nat → Int32) × Int32 × (Nat → Int32) × Int32 × Int32 × Int32 × Int32 × Int32 × Int32 × Int32 × (Nat → Int32) × Int32) t => wq D A (oX8 xo w hi sn tx f mm re ro (bI true) (bI true) :: oX2 mm mro mfi mle u.1 mlo :: aI cI mro 100 u.2.1 :: aI cI mfi 100 u.2.2.1 :: aI cI mle 100 u.2.2.2.1 :: aI cI mlo 200 u.2.2.2.2.1 :: oX7 w wb ws wc wr wl ww wf :: aI cI wb 10 wbl :: aI cI ws 3 wse :: oX4 re u.2.2.2.2.2.1 rl rf :: aI cI rl 10000 u.2.2.2.2.2.2.1 :: oX0 rf u.2.2.2.2.2.2.2.1 u.2.2.2.2.2.2.2.2.1 u.2.2.2.2.2.2.2.2.2.1 u.2.2.2.2.2.2.2.2.2.2.1 u.2.2.2.2.2.2.2.2.2.2.2.1 u.2.2.2.2.2.2.2.2.2.2.2.2.1 u.2.2.2.2.2.2.2.2.2.2.2.2.2.1 :: oX5 ro rog rsp rqu rta u.2.2.2.2.2.2.2.2.2.2.2.2.2.2.2 :: aI cI rog 4 u.2.2.2.2.2.2.2.2.2.2.2.2.2.2.1 :: aI cI rsp 400 gsp :: aI cI rta 10000 gta :: X) t) A) 0 0 A := by
  refine Met.ofW (cc := cX8_knowReaches) (maxL := 1) (ret := none) (by decide) rfl ?_
  intro p e s m args below meth c s₁ B hml hv
  obtain ⟨rfl, hsz9, hP, hK, hD, hN⟩ := hv
  have hx := B.exec
  have hb := B.bytes
  have hr := B.returns
  have hts := atoms_spec (ws := wsX8_knowReaches) B.pre
  have hown : s.vm.findClass RX8 = some m.cls := findClass_of_methodNamed B.named
  have hlocks := B.notSynchronized
  have CF : CallFix p m c cX8_knowReaches 1 s _ wsX8_knowReaches RX8 := ⟨hx, hb, hml, hown, hts⟩
  have hA : ∀ q : Nat, s.heap.size ≤ q → A q := hsz9
  have hS : va_S A s.heap s.heap [] := va_S.rf
  have hiX8 : ∀ w ∈ u_ws RX8 TX8 10, w ∈ wsX8_knowReaches := fun _ h => List.mem_cons_of_mem _ (List.mem_append_left _ (List.mem_append_left _ (List.mem_append_left _ (List.mem_append_left _ (List.mem_append_left _ (List.mem_append_right _ (h)))))))
  have hl := lv_entry ([.ref xo]) (n := 1) (Nat.le_of_ble_eq_true rfl)
  rw [lg_entry_eq]
  generalize (lg_sl ([.ref xo]) ++ List.replicate (1 - (lg_sl ([.ref xo])).length) Slot.unset).toArray = ls at hl ⊢
  have hl : lv_has ls 1 [(0, .ref xo)] := hl
  show W p l e ({ frames := 5, cells := 0, slots := 0, locals := 125 } : Room) s m (([.ref xo] : List Value).toArray) below meth c s.heap [] 0 0 (MQ below (va_Qv (fun (u : Int32 × (Nat → Int32) × (Nat → Int32) × (Nat → Int32) × (Nat → Int32) × Int32 × (Nat → Int32) × Int32 × Int32 × Int32 × Int32 × Int32 × Int32 × Int32 × (Nat → Int32) × Int32) => MapOK (blkX wbl) u.1 u.2.1 u.2.2.1 u.2.2.2.1 u.2.2.2.2.1 ∧ RchOK (blkX wbl) (wse 0) (wse 1) (wse 2) u.2.2.2.2.2.1 u.2.2.2.2.2.2.1 ∧ RtsOK (nL (blkX wbl)) u.2.2.2.2.2.2.1 u.2.2.2.2.2.2.2.2.2.2.2.2.2.2.1 gsp u.2.2.2.2.2.2.2.2.2.2.2.2.2.2.2 gta) (fun (u : Int32 × (Nat → Int32) × (Nat → Int32) × (Nat → Int32) × (Nat → Int32) × Int32 × (Nat → Int32) × Int32 × Int32 × Int32 × Int32 × Int32 × Int32 × Int32 × (Nat → Int32) × Int32) t => wq D A (oX8 xo w hi sn tx f mm re ro (bI true) (bI true) :: oX2 mm mro mfi mle u.1 mlo :: aI cI mro 100 u.2.1 :: aI cI mfi 100 u.2.2.1 :: aI cI mle 100 u.2.2.2.1 :: aI cI mlo 200 u.2.2.2.2.1 :: oX7 w wb ws wc wr wl ww wf :: aI cI wb 10 wbl :: aI cI ws 3 wse :: oX4 re u.2.2.2.2.2.1 rl rf :: aI cI rl 10000 u.2.2.2.2.2.2.1 :: oX0 rf u.2.2.2.2.2.2.2.1 u.2.2.2.2.2.2.2.2.1 u.2.2.2.2.2.2.2.2.2.1 u.2.2.2.2.2.2.2.2.2.2.1 u.2.2.2.2.2.2.2.2.2.2.2.1 u.2.2.2.2.2.2.2.2.2.2.2.2.1 u.2.2.2.2.2.2.2.2.2.2.2.2.2.1 :: oX5 ro rog rsp rqu rta u.2.2.2.2.2.2.2.2.2.2.2.2.2.2.2 :: aI cI rog 4 u.2.2.2.2.2.2.2.2.2.2.2.2.2.2.1 :: aI cI rsp 400 gsp :: aI cI rta 10000 gta :: X) t) A) (([.ref xo] : List Value).toArray) s 0 0 A) (F0 m 0 ls [])
  refine lv_aload_n hx hb dX8_knowReaches_0 rfl (lv_at hl 0 rfl) ?_
  refine cV_v CF hK hN hA hS (cut_of 16 [0, 1, 2, 3, 4, 5, 6, 7, 8, 9, 10, 11, 12, 13, 14, 15] hP hD rfl rfl rfl) (m_knowMap l D cI cZ cW cJ A (aI cI ws 3 wse :: oX4 re rs rl rf :: aI cI rl 10000 glr :: oX0 rf fc fr ft fo fm fs fi :: oX5 ro rog rsp rqu rta rut :: aI cI rog 4 gog :: aI cI rsp 400 gsp :: aI cI rta 10000 gta :: X) xo hi sn tx f mm re ro mk rk mro mfi mle mlo gro gfi gle glo ms w wb ws wc wr wl ww wf wbl hC.1) (cwV 0 hts gX8_knowReaches_X8_knowMap rfl rfl rfl (by decide +kernel) ⟨Nat.le_of_ble_eq_true rfl, Nat.le_of_ble_eq_true rfl⟩) (As := []) (rest := []) (ci := 8) (q0 := 0) rfl rfl rfl hl.1 rfl (Nat.le_of_ble_eq_true rfl) dX8_knowReaches_1 ⟨Nat.le_of_ble_eq_true rfl, Nat.le_of_ble_eq_true rfl⟩ (fun u_1 H locs hq hP hD hS => ?_)
  have hq_1 : MapOK (blkX wbl) u_1.1 u_1.2.1 u_1.2.2.1 u_1.2.2.2.1 u_1.2.2.2.2 := hq
  have hP : va_P D vwCl (oX8 xo w hi sn tx f mm re ro (bI true) (bI rk) :: oX2 mm mro mfi mle u_1.1 mlo :: aI cI mro 100 u_1.2.1 :: aI cI mfi 100 u_1.2.2.1 :: aI cI mle 100 u_1.2.2.2.1 :: aI cI mlo 200 u_1.2.2.2.2 :: oX7 w wb ws wc wr wl ww wf :: aI cI wb 10 wbl :: aI cI ws 3 wse :: oX4 re rs rl rf :: aI cI rl 10000 glr :: oX0 rf fc fr ft fo fm fs fi :: oX5 ro rog rsp rqu rta rut :: aI cI rog 4 gog :: aI cI rsp 400 gsp :: aI cI rta 10000 gta :: X) H := pm_P hP 16 [0, 1, 2, 3, 4, 5, 6, 7, 8, 9, 10, 11, 12, 13, 14, 15] rfl
  have hD : va_D A (oX8 xo w hi sn tx f mm re ro (bI true) (bI rk) :: oX2 mm mro mfi mle u_1.1 mlo :: aI cI mro 100 u_1.2.1 :: aI cI mfi 100 u_1.2.2.1 :: aI cI mle 100 u_1.2.2.2.1 :: aI cI mlo 200 u_1.2.2.2.2 :: oX7 w wb ws wc wr wl ww wf :: aI cI wb 10 wbl :: aI cI ws 3 wse :: oX4 re rs rl rf :: aI cI rl 10000 glr :: oX0 rf fc fr ft fo fm fs fi :: oX5 ro rog rsp rqu rta rut :: aI cI rog 4 gog :: aI cI rsp 400 gsp :: aI cI rta 10000 gta :: X) := pm_D hD 16 [0, 1, 2, 3, 4, 5, 6, 7, 8, 9, 10, 11, 12, 13, 14, 15] rfl rfl rfl
  have hM := hq_1
  have hms : u_1.1 = nI (nL (blkX wbl)) := hM.1
  rw [hms] at hP hD
  have hP : va_P D vwCl (oX8 xo w hi sn tx f mm re ro (bI true) (bI rk) :: oX2 mm mro mfi mle (nI (nL (blkX wbl))) mlo :: aI cI mro 100 u_1.2.1 :: aI cI mfi 100 u_1.2.2.1 :: aI cI mle 100 u_1.2.2.2.1 :: aI cI mlo 200 u_1.2.2.2.2 :: oX7 w wb ws wc wr wl ww wf :: aI cI wb 10 wbl :: aI cI ws 3 wse :: oX4 re rs rl rf :: aI cI rl 10000 glr :: oX0 rf fc fr ft fo fm fs fi :: oX5 ro rog rsp rqu rta rut :: aI cI rog 4 gog :: aI cI rsp 400 gsp :: aI cI rta 10000 gta :: X) H := hP
  have hD : va_D A (oX8 xo w hi sn tx f mm re ro (bI true) (bI rk) :: oX2 mm mro mfi mle (nI (nL (blkX wbl))) mlo :: aI cI mro 100 u_1.2.1 :: aI cI mfi 100 u_1.2.2.1 :: aI cI mle 100 u_1.2.2.2.1 :: aI cI mlo 200 u_1.2.2.2.2 :: oX7 w wb ws wc wr wl ww wf :: aI cI wb 10 wbl :: aI cI ws 3 wse :: oX4 re rs rl rf :: aI cI rl 10000 glr :: oX0 rf fc fr ft fo fm fs fi :: oX5 ro rog rsp rqu rta rut :: aI cI rog 4 gog :: aI cI rsp 400 gsp :: aI cI rta 10000 gta :: X) := hD
  refine lv_aload_n hx hb dX8_knowReaches_4 rfl (lv_at hl 0 rfl) ?_
  refine va_get (D := D) (ci := 8) (v := .int (bI rk)) (C := RX8) (T := TX8) (N := 10) hx hb hts hiX8 hown hK hP 0 rfl rfl 9 (by decide) (hts (.fieldLink RX8 303 "LedgeLeaps" "reachesAreKnown" "Z") (List.mem_of_getElem? (i := 1) rfl)) (fun _ h9 => h9) rfl dX8_knowReaches_5 ?_
  refine lv_if_ne (tgt := 38) hx hb dX8_knowReaches_8 (by decide) (fun c_8 => ?_) (fun c_8 => ?_)
  · have hrk : rk = true := bt_c c_8
    rw [hrk] at hP hD
    obtain ⟨-, h1, h2⟩ := hC.2 hrk
    exact W.vret hx hb hr (fun t9 ht9 hW9 => ⟨⟨((nI (nL (blkX wbl))), u_1.2.1, u_1.2.2.1, u_1.2.2.2.1, u_1.2.2.2.2, rs, glr, fc, fr, ft, fo, fm, fs, fi, gog, rut), rfl, ⟨⟨rfl, hM.2⟩, h1, h2⟩, by rw [ht9]; exact hP, hD⟩, hS.F ht9⟩) hS.2.2 dX8_knowReaches_38
  · refine lv_aload_n hx hb dX8_knowReaches_11 rfl (lv_at hl 0 rfl) ?_
    refine va_get (D := D) (ci := 8) (v := .ref re) (C := RX8) (T := TX8) (N := 10) hx hb hts hiX8 hown hK hP 0 rfl rfl 6 (by decide) (hts (.fieldLink RX8 54 "LedgeLeaps" "reaches" "LLedgeLeaps$Reaches;") (List.mem_of_getElem? (i := 2) rfl)) (fun _ h9 => h9) rfl dX8_knowReaches_12 ?_
    refine lv_aload_n hx hb dX8_knowReaches_15 rfl (lv_at hl 0 rfl) ?_
    refine va_get (D := D) (ci := 8) (v := .ref w) (C := RX8) (T := TX8) (N := 10) hx hb hts hiX8 hown hK hP 0 rfl rfl 0 (by decide) (hts (.fieldLink RX8 12 "LedgeLeaps" "world" "LLedgeLeaps$World;") (List.mem_of_getElem? (i := 3) rfl)) (fun _ h9 => h9) rfl dX8_knowReaches_16 ?_
    refine lv_aload_n hx hb dX8_knowReaches_19 rfl (lv_at hl 0 rfl) ?_
    refine va_get (D := D) (ci := 8) (v := .ref mm) (C := RX8) (T := TX8) (N := 10) hx hb hts hiX8 hown hK hP 0 rfl rfl 5 (by decide) (hts (.fieldLink RX8 47 "LedgeLeaps" "map" "LLedgeLeaps$LedgeMap;") (List.mem_of_getElem? (i := 4) rfl)) (fun _ h9 => h9) rfl dX8_knowReaches_20 ?_
    refine cV_v CF hK hN hA hS (cut_of 16 [9, 10, 11, 6, 7, 8, 1, 5, 0, 2, 3, 4, 12, 13, 14, 15] hP hD rfl rfl rfl) (m_find l D cI cZ cW cJ A (oX8 xo w hi sn tx f mm re ro (bI true) (bI rk) :: aI cI mro 100 u_1.2.1 :: aI cI mfi 100 u_1.2.2.1 :: aI cI mle 100 u_1.2.2.2.1 :: oX5 ro rog rsp rqu rta rut :: aI cI rog 4 gog :: aI cI rsp 400 gsp :: aI cI rta 10000 gta :: X) re rl rf rs glr fc fr ft fo fm fs fi w wb ws wc wr wl ww wf wbl wse mm mro mfi mle mlo u_1.2.2.2.2 (nL (blkX wbl)) hM.2.1 hse) (cwV 2 hts gX8_knowReaches_X4_find rfl rfl rfl (by decide +kernel) ⟨Nat.le_of_ble_eq_true rfl, Nat.le_of_ble_eq_true rfl⟩) (As := [.ref w, .ref mm]) (rest := []) (ci := 4) (q0 := 0) rfl rfl rfl hl.1 rfl (Nat.le_of_ble_eq_true rfl) dX8_knowReaches_23 ⟨Nat.le_of_ble_eq_true rfl, Nat.le_of_ble_eq_true rfl⟩ (fun u_23 H locs hq hP hD hS => ?_)
    have hq_23 : InvN (-1) 10000 u_23.1 (EvA (blkX wbl) (wse 0) (wse 1) (wse 2) 200) := hq
    have hP : va_P D vwCl (oX8 xo w hi sn tx f mm re ro (bI true) (bI rk) :: oX2 mm mro mfi mle (nI (nL (blkX wbl))) mlo :: aI cI mro 100 u_1.2.1 :: aI cI mfi 100 u_1.2.2.1 :: aI cI mle 100 u_1.2.2.2.1 :: aI cI mlo 200 u_1.2.2.2.2 :: oX7 w wb ws wc wr wl ww wf :: aI cI wb 10 wbl :: aI cI ws 3 wse :: oX4 re (nI (nL (blkX wbl))) rl rf :: aI cI rl 10000 u_23.1 :: oX0 rf u_23.2.1 u_23.2.2.1 u_23.2.2.2.1 u_23.2.2.2.2.1 u_23.2.2.2.2.2.1 u_23.2.2.2.2.2.2.1 u_23.2.2.2.2.2.2.2 :: oX5 ro rog rsp rqu rta rut :: aI cI rog 4 gog :: aI cI rsp 400 gsp :: aI cI rta 10000 gta :: X) H := pm_P hP 16 [8, 6, 9, 10, 11, 7, 3, 4, 5, 0, 1, 2, 12, 13, 14, 15] rfl
    have hD : va_D A (oX8 xo w hi sn tx f mm re ro (bI true) (bI rk) :: oX2 mm mro mfi mle (nI (nL (blkX wbl))) mlo :: aI cI mro 100 u_1.2.1 :: aI cI mfi 100 u_1.2.2.1 :: aI cI mle 100 u_1.2.2.2.1 :: aI cI mlo 200 u_1.2.2.2.2 :: oX7 w wb ws wc wr wl ww wf :: aI cI wb 10 wbl :: aI cI ws 3 wse :: oX4 re (nI (nL (blkX wbl))) rl rf :: aI cI rl 10000 u_23.1 :: oX0 rf u_23.2.1 u_23.2.2.1 u_23.2.2.2.1 u_23.2.2.2.2.1 u_23.2.2.2.2.2.1 u_23.2.2.2.2.2.2.1 u_23.2.2.2.2.2.2.2 :: oX5 ro rog rsp rqu rta rut :: aI cI rog 4 gog :: aI cI rsp 400 gsp :: aI cI rta 10000 gta :: X) := pm_D hD 16 [8, 6, 9, 10, 11, 7, 3, 4, 5, 0, 1, 2, 12, 13, 14, 15] rfl rfl rfl
    refine lv_aload_n hx hb dX8_knowReaches_26 rfl (lv_at hl 0 rfl) ?_
    refine va_get (D := D) (ci := 8) (v := .ref ro) (C := RX8) (T := TX8) (N := 10) hx hb hts hiX8 hown hK hP 0 rfl rfl 7 (by decide) (hts (.fieldLink RX8 61 "LedgeLeaps" "routes" "LLedgeLeaps$Routes;") (List.mem_of_getElem? (i := 5) rfl)) (fun _ h9 => h9) rfl dX8_knowReaches_27 ?_
    refine cV_v CF hK hN hA hS (cut_of 16 [12, 13, 0, 1, 2, 3, 4, 5, 6, 7, 8, 9, 10, 11, 14, 15] hP hD rfl rfl rfl) (m_forget l D cI cZ cW cJ A (oX8 xo w hi sn tx f mm re ro (bI true) (bI rk) :: oX2 mm mro mfi mle (nI (nL (blkX wbl))) mlo :: aI cI mro 100 u_1.2.1 :: aI cI mfi 100 u_1.2.2.1 :: aI cI mle 100 u_1.2.2.2.1 :: aI cI mlo 200 u_1.2.2.2.2 :: oX7 w wb ws wc wr wl ww wf :: aI cI wb 10 wbl :: aI cI ws 3 wse :: oX4 re (nI (nL (blkX wbl))) rl rf :: aI cI rl 10000 u_23.1 :: oX0 rf u_23.2.1 u_23.2.2.1 u_23.2.2.2.1 u_23.2.2.2.2.1 u_23.2.2.2.2.2.1 u_23.2.2.2.2.2.2.1 u_23.2.2.2.2.2.2.2 :: aI cI rsp 400 gsp :: aI cI rta 10000 gta :: X) ro rog rsp rqu rta rut gog) (cwV 0 hts gX8_knowReaches_X5_forget rfl rfl rfl (by decide +kernel) ⟨Nat.le_of_ble_eq_true rfl, Nat.le_of_ble_eq_true rfl⟩) (As := []) (rest := []) (ci := 5) (q0 := 0) rfl rfl rfl hl.1 rfl (Nat.le_of_ble_eq_true rfl) dX8_knowReaches_30 ⟨Nat.le_of_ble_eq_true rfl, Nat.le_of_ble_eq_true rfl⟩ (fun _ H locs hq hP hD hS => ?_)
    have hP : va_P D vwCl (oX8 xo w hi sn tx f mm re ro (bI true) (bI rk) :: oX2 mm mro mfi mle (nI (nL (blkX wbl))) mlo :: aI cI mro 100 u_1.2.1 :: aI cI mfi 100 u_1.2.2.1 :: aI cI mle 100 u_1.2.2.2.1 :: aI cI mlo 200 u_1.2.2.2.2 :: oX7 w wb ws wc wr wl ww wf :: aI cI wb 10 wbl :: aI cI ws 3 wse :: oX4 re (nI (nL (blkX wbl))) rl rf :: aI cI rl 10000 u_23.1 :: oX0 rf u_23.2.1 u_23.2.2.1 u_23.2.2.2.1 u_23.2.2.2.2.1 u_23.2.2.2.2.2.1 u_23.2.2.2.2.2.2.1 u_23.2.2.2.2.2.2.2 :: oX5 ro rog rsp rqu rta (-1) :: aI cI rog 4 (fillX (-1) gog 4) :: aI cI rsp 400 gsp :: aI cI rta 10000 gta :: X) H := pm_P hP 16 [2, 3, 4, 5, 6, 7, 8, 9, 10, 11, 12, 13, 0, 1, 14, 15] rfl
    have hD : va_D A (oX8 xo w hi sn tx f mm re ro (bI true) (bI rk) :: oX2 mm mro mfi mle (nI (nL (blkX wbl))) mlo :: aI cI mro 100 u_1.2.1 :: aI cI mfi 100 u_1.2.2.1 :: aI cI mle 100 u_1.2.2.2.1 :: aI cI mlo 200 u_1.2.2.2.2 :: oX7 w wb ws wc wr wl ww wf :: aI cI wb 10 wbl :: aI cI ws 3 wse :: oX4 re (nI (nL (blkX wbl))) rl rf :: aI cI rl 10000 u_23.1 :: oX0 rf u_23.2.1 u_23.2.2.1 u_23.2.2.2.1 u_23.2.2.2.2.1 u_23.2.2.2.2.2.1 u_23.2.2.2.2.2.2.1 u_23.2.2.2.2.2.2.2 :: oX5 ro rog rsp rqu rta (-1) :: aI cI rog 4 (fillX (-1) gog 4) :: aI cI rsp 400 gsp :: aI cI rta 10000 gta :: X) := pm_D hD 16 [2, 3, 4, 5, 6, 7, 8, 9, 10, 11, 12, 13, 0, 1, 14, 15] rfl rfl rfl
    refine lv_aload_n hx hb dX8_knowReaches_33 rfl (lv_at hl 0 rfl) ?_
    refine lv_iconst (v := 1) hx hb dX8_knowReaches_34 (by decide) ?_
    refine va_put (D := D) (ci := 8) (v := .int 1) (ty := .boolean) (C := RX8) (T := TX8) (N := 10) hx hb hts hiX8 tyX8 tyX8_ok nmX8 hown hK hP hD hS 0 rfl rfl 9 (by decide) (hts (.fieldLink RX8 303 "LedgeLeaps" "reachesAreKnown" "Z") (List.mem_of_getElem? (i := 1) rfl)) (fun _ h9 => h9) rfl (by decide +kernel) rfl rfl (Nat.le_of_ble_eq_true rfl) dX8_knowReaches_35 (fun H locs hP hD hS => ?_)
    have hP : va_P D vwCl (oX8 xo w hi sn tx f mm re ro (bI true) 1 :: oX2 mm mro mfi mle (nI (nL (blkX wbl))) mlo :: aI cI mro 100 u_1.2.1 :: aI cI mfi 100 u_1.2.2.1 :: aI cI mle 100 u_1.2.2.2.1 :: aI cI mlo 200 u_1.2.2.2.2 :: oX7 w wb ws wc wr wl ww wf :: aI cI wb 10 wbl :: aI cI ws 3 wse :: oX4 re (nI (nL (blkX wbl))) rl rf :: aI cI rl 10000 u_23.1 :: oX0 rf u_23.2.1 u_23.2.2.1 u_23.2.2.2.1 u_23.2.2.2.2.1 u_23.2.2.2.2.2.1 u_23.2.2.2.2.2.2.1 u_23.2.2.2.2.2.2.2 :: oX5 ro rog rsp rqu rta (-1) :: aI cI rog 4 (fillX (-1) gog 4) :: aI cI rsp 400 gsp :: aI cI rta 10000 gta :: X) H := hP
    have hD : va_D A (oX8 xo w hi sn tx f mm re ro (bI true) 1 :: oX2 mm mro mfi mle (nI (nL (blkX wbl))) mlo :: aI cI mro 100 u_1.2.1 :: aI cI mfi 100 u_1.2.2.1 :: aI cI mle 100 u_1.2.2.2.1 :: aI cI mlo 200 u_1.2.2.2.2 :: oX7 w wb ws wc wr wl ww wf :: aI cI wb 10 wbl :: aI cI ws 3 wse :: oX4 re (nI (nL (blkX wbl))) rl rf :: aI cI rl 10000 u_23.1 :: oX0 rf u_23.2.1 u_23.2.2.1 u_23.2.2.2.1 u_23.2.2.2.2.1 u_23.2.2.2.2.2.1 u_23.2.2.2.2.2.2.1 u_23.2.2.2.2.2.2.2 :: oX5 ro rog rsp rqu rta (-1) :: aI cI rog 4 (fillX (-1) gog 4) :: aI cI rsp 400 gsp :: aI cI rta 10000 gta :: X) := hD
    exact W.vret hx hb hr (fun t9 ht9 hW9 => ⟨⟨((nI (nL (blkX wbl))), u_1.2.1, u_1.2.2.1, u_1.2.2.2.1, u_1.2.2.2.2, (nI (nL (blkX wbl))), u_23.1, u_23.2.1, u_23.2.2.1, u_23.2.2.2.1, u_23.2.2.2.2.1, u_23.2.2.2.2.2.1, u_23.2.2.2.2.2.2.1, u_23.2.2.2.2.2.2.2, (fillX (-1) gog 4), (-1)), rfl, ⟨⟨rfl, hM.2⟩, ⟨rfl, hq_23⟩, RtsOK.none _ (Nat.lt_of_le_of_lt (nL_le _) (by decide)) _ _ _ _⟩, by rw [ht9]; exact hP, hD⟩, hS.F ht9⟩) hS.2.2 dX8_knowReaches_38
set_option maxHeartbeats 4000000 in
set_option maxRecDepth 100000 in
theorem m_runnersLedge (l : Launch) (D : va_G) (cI cZ cW cJ : ClassId) (A : Nat → Prop) (X : va_W) (xo hi sn tx f mm re ro : Nat) (mk rk : Bool) (mro mfi mle mlo : Nat) (glo : Nat → Int32) (sz : Nat) (w wb ws : Nat) (wc wr wl ww wf : Int32) : Met l yX8_runnersLedge wsX8_runnersLedge ({ frames := 2, cells := 0, slots := 0, locals := 43 }) (va_Pc [.ref xo] (wd D (tyL cI cZ cW cJ) A (oX8 xo w hi sn tx f mm re ro (bI mk) (bI rk) :: oX2 mm mro mfi mle (nI sz) mlo :: aI cI mlo 200 glo :: oX7 w wb ws wc wr wl ww wf :: X))) (va_Qi (fun (r : Int32) (u : Unit) => r = laX glo wc wr) (fun (u : Unit) t => wq D A (oX8 xo w hi sn tx f mm re ro (bI mk) (bI rk) :: oX2 mm mro mfi mle (nI sz) mlo :: aI cI mlo 200 glo :: oX7 w wb ws wc wr wl ww wf :: X) t) A) 0 0 A := by
  refine Met.ofW (cc := cX8_runnersLedge) (maxL := 1) (ret := (some .int)) (by decide) rfl ?_
  intro p e s m args below meth c s₁ B hml hv
  obtain ⟨rfl, hsz9, hP, hK, hD, hN⟩ := hv
  have hx := B.exec
  have hb := B.bytes
  have hr := B.returns
  have hts := atoms_spec (ws := wsX8_runnersLedge) B.pre
  have hown : s.vm.findClass RX8 = some m.cls := findClass_of_methodNamed B.named
  have hlocks := B.notSynchronized
  have CF : CallFix p m c cX8_runnersLedge 1 s _ wsX8_runnersLedge RX8 := ⟨hx, hb, hml, hown, hts⟩
  have hA : ∀ q : Nat, s.heap.size ≤ q → A q := hsz9
  have hS : va_S A s.heap s.heap [] := va_S.rf
  have hiX7 : ∀ w ∈ u_ws RX7 TX7 7, w ∈ wsX8_runnersLedge := fun _ h => List.mem_cons_of_mem _ (List.mem_append_left _ (List.mem_append_right _ (h)))
  have hiX8 : ∀ w ∈ u_ws RX8 TX8 10, w ∈ wsX8_runnersLedge := fun _ h => List.mem_cons_of_mem _ (List.mem_append_left _ (List.mem_append_left _ (List.mem_append_right _ (h))))
  have hl := lv_entry ([.ref xo]) (n := 1) (Nat.le_of_ble_eq_true rfl)
  rw [lg_entry_eq]
  generalize (lg_sl ([.ref xo]) ++ List.replicate (1 - (lg_sl ([.ref xo])).length) Slot.unset).toArray = ls at hl ⊢
  have hl : lv_has ls 1 [(0, .ref xo)] := hl
  show W p l e ({ frames := 2, cells := 0, slots := 0, locals := 43 } : Room) s m (([.ref xo] : List Value).toArray) below meth c s.heap [] 0 0 (MQ below (va_Qi (fun (r : Int32) (u : Unit) => r = laX glo wc wr) (fun (u : Unit) t => wq D A (oX8 xo w hi sn tx f mm re ro (bI mk) (bI rk) :: oX2 mm mro mfi mle (nI sz) mlo :: aI cI mlo 200 glo :: oX7 w wb ws wc wr wl ww wf :: X) t) A) (([.ref xo] : List Value).toArray) s 0 0 A) (F0 m 0 ls [])
  refine lv_aload_n hx hb dX8_runnersLedge_0 rfl (lv_at hl 0 rfl) ?_
  refine va_get (D := D) (ci := 8) (v := .ref mm) (C := RX8) (T := TX8) (N := 10) hx hb hts hiX8 hown hK hP 0 rfl rfl 5 (by decide) (hts (.fieldLink RX8 47 "LedgeLeaps" "map" "LLedgeLeaps$LedgeMap;") (List.mem_of_getElem? (i := 1) rfl)) (fun _ h9 => h9) rfl dX8_runnersLedge_1 ?_
  refine lv_aload_n hx hb dX8_runnersLedge_4 rfl (lv_at hl 0 rfl) ?_
  refine va_get (D := D) (ci := 8) (v := .ref w) (C := RX8) (T := TX8) (N := 10) hx hb hts hiX8 hown hK hP 0 rfl rfl 0 (by decide) (hts (.fieldLink RX8 12 "LedgeLeaps" "world" "LLedgeLeaps$World;") (List.mem_of_getElem? (i := 2) rfl)) (fun _ h9 => h9) rfl dX8_runnersLedge_5 ?_
  refine va_get (D := D) (ci := 7) (v := .int wc) (C := RX7) (T := TX7) (N := 7) hx hb hts hiX7 hown hK hP 3 rfl rfl 2 (by decide) (hts (.fieldLink RX8 137 "LedgeLeaps$World" "column" "I") (List.mem_of_getElem? (i := 3) rfl)) (fun _ h9 => h9) rfl dX8_runnersLedge_8 ?_
  refine lv_aload_n hx hb dX8_runnersLedge_11 rfl (lv_at hl 0 rfl) ?_
  refine va_get (D := D) (ci := 8) (v := .ref w) (C := RX8) (T := TX8) (N := 10) hx hb hts hiX8 hown hK hP 0 rfl rfl 0 (by decide) (hts (.fieldLink RX8 12 "LedgeLeaps" "world" "LLedgeLeaps$World;") (List.mem_of_getElem? (i := 2) rfl)) (fun _ h9 => h9) rfl dX8_runnersLedge_12 ?_
  refine va_get (D := D) (ci := 7) (v := .int wr) (C := RX7) (T := TX7) (N := 7) hx hb hts hiX7 hown hK hP 3 rfl rfl 3 (by decide) (hts (.fieldLink RX8 140 "LedgeLeaps$World" "row" "I") (List.mem_of_getElem? (i := 4) rfl)) (fun _ h9 => h9) rfl dX8_runnersLedge_15 ?_
  refine cV_i CF hK hN hA hS (cut_of 4 [1, 2, 0, 3] hP hD rfl rfl rfl) (m_ledgeAt l D cI cZ cW cJ A (oX8 xo w hi sn tx f mm re ro (bI mk) (bI rk) :: oX7 w wb ws wc wr wl ww wf :: X) mm mro mfi mle mlo glo sz wc wr) (cwV 2 hts gX8_runnersLedge_X2_ledgeAt rfl rfl rfl (by decide +kernel) ⟨Nat.le_of_ble_eq_true rfl, Nat.le_of_ble_eq_true rfl⟩) (As := [.int wc, .int wr]) (rest := []) (ci := 2) (q0 := 0) rfl rfl rfl hl.1 rfl (Nat.le_of_ble_eq_true rfl) dX8_runnersLedge_18 ⟨Nat.le_of_ble_eq_true rfl, Nat.le_of_ble_eq_true rfl⟩ (fun r_18 _ H locs hq hP hD hS => ?_)
  have hq : r_18 = laX glo wc wr := hq
  subst hq
  have hP : va_P D vwCl (oX8 xo w hi sn tx f mm re ro (bI mk) (bI rk) :: oX2 mm mro mfi mle (nI sz) mlo :: aI cI mlo 200 glo :: oX7 w wb ws wc wr wl ww wf :: X) H := pm_P hP 4 [2, 0, 1, 3] rfl
  have hD : va_D A (oX8 xo w hi sn tx f mm re ro (bI mk) (bI rk) :: oX2 mm mro mfi mle (nI sz) mlo :: aI cI mlo 200 glo :: oX7 w wb ws wc wr wl ww wf :: X) := pm_D hD 4 [2, 0, 1, 3] rfl rfl rfl
  exact W.iret (v := (laX glo wc wr)) hx hb hr (fun t9 ht9 hW9 => ⟨⟨(laX glo wc wr), (), rfl, rfl, by rw [ht9]; exact hP, hD⟩, hS.F ht9⟩) hS.2.2 dX8_runnersLedge_21
set_option maxHeartbeats 4000000 in
set_option maxRecDepth 100000 in
theorem m_spreadFromRunner (l : Launch) (D : va_G) (cI cZ cW cJ : ClassId) (A : Nat → Prop) (X : va_W) (xo hi sn tx f mm re ro : Nat) (mk rk : Bool) (mro mfi mle mlo : Nat) (glo : Nat → Int32) (sz : Nat) (w wb ws : Nat) (wc wr wl ww wf : Int32) (rog rsp rqu rta : Nat) (rut : Int32) (gog gsp gqu : Nat → Int32) (rl rf : Nat) (glr : Nat → Int32) (ow : Nat) (hsz : sz ≤ 100) (how : ow < sz) (hlw : laX glo wc wr = nI ow) (hrt : RtOK glr sz gog gsp) : Met l yX8_spreadFromRunner wsX8_spreadFromRunner ({ frames := 4, cells := 0, slots := 0, locals := 96 }) (va_Pc [.ref xo] (wd D (tyL cI cZ cW cJ) A (oX8 xo w hi sn tx f mm re ro (bI mk) (bI rk) :: oX2 mm mro mfi mle (nI sz) mlo :: aI cI mlo 200 glo :: oX7 w wb ws wc wr wl ww wf :: oX5 ro rog rsp rqu rta rut :: aI cI rog 4 gog :: aI cI rsp 400 gsp :: aI cI rqu 100 gqu :: oX4 re (nI sz) rl rf :: aI cI rl 10000 glr :: X))) (va_Qv (fun (u : (Nat → Int32) × (Nat → Int32) × (Nat → Int32)) => RtOK glr sz u.1 u.2.1 ∧ u.1 0 = nI ow ∧ u.1 3 = nI ow) (fun (u : (Nat → Int32) × (Nat → Int32) × (Nat → Int32)) t => wq D A (oX8 xo w hi sn tx f mm re ro (bI mk) (bI rk) :: oX2 mm mro mfi mle (nI sz) mlo :: aI cI mlo 200 glo :: oX7 w wb ws wc wr wl ww wf :: oX5 ro rog rsp rqu rta rut :: aI cI rog 4 u.1 :: aI cI rsp 400 u.2.1 :: aI cI rqu 100 u.2.2 :: oX4 re (nI sz) rl rf :: aI cI rl 10000 glr :: X) t) A) 0 0 A := by
  refine Met.ofW (cc := cX8_spreadFromRunner) (maxL := 1) (ret := none) (by decide) rfl ?_
  intro p e s m args below meth c s₁ B hml hv
  obtain ⟨rfl, hsz9, hP, hK, hD, hN⟩ := hv
  have hx := B.exec
  have hb := B.bytes
  have hr := B.returns
  have hts := atoms_spec (ws := wsX8_spreadFromRunner) B.pre
  have hown : s.vm.findClass RX8 = some m.cls := findClass_of_methodNamed B.named
  have hlocks := B.notSynchronized
  have CF : CallFix p m c cX8_spreadFromRunner 1 s _ wsX8_spreadFromRunner RX8 := ⟨hx, hb, hml, hown, hts⟩
  have hA : ∀ q : Nat, s.heap.size ≤ q → A q := hsz9
  have hS : va_S A s.heap s.heap [] := va_S.rf
  have hiX8 : ∀ w ∈ u_ws RX8 TX8 10, w ∈ wsX8_spreadFromRunner := fun _ h => List.mem_cons_of_mem _ (List.mem_append_left _ (List.mem_append_left _ (List.mem_append_left _ (List.mem_append_left _ (List.mem_append_right _ (h))))))
  have hl := lv_entry ([.ref xo]) (n := 1) (Nat.le_of_ble_eq_true rfl)
  rw [lg_entry_eq]
  generalize (lg_sl ([.ref xo]) ++ List.replicate (1 - (lg_sl ([.ref xo])).length) Slot.unset).toArray = ls at hl ⊢
  have hl : lv_has ls 1 [(0, .ref xo)] := hl
  show W p l e ({ frames := 4, cells := 0, slots := 0, locals := 96 } : Room) s m (([.ref xo] : List Value).toArray) below meth c s.heap [] 0 0 (MQ below (va_Qv (fun (u : (Nat → Int32) × (Nat → Int32) × (Nat → Int32)) => RtOK glr sz u.1 u.2.1 ∧ u.1 0 = nI ow ∧ u.1 3 = nI ow) (fun (u : (Nat → Int32) × (Nat → Int32) × (Nat → Int32)) t => wq D A (oX8 xo w hi sn tx f mm re ro (bI mk) (bI rk) :: oX2 mm mro mfi mle (nI sz) mlo :: aI cI mlo 200 glo :: oX7 w wb ws wc wr wl ww wf :: oX5 ro rog rsp rqu rta rut :: aI cI rog 4 u.1 :: aI cI rsp 400 u.2.1 :: aI cI rqu 100 u.2.2 :: oX4 re (nI sz) rl rf :: aI cI rl 10000 glr :: X) t) A) (([.ref xo] : List Value).toArray) s 0 0 A) (F0 m 0 ls [])
  refine lv_aload_n hx hb dX8_spreadFromRunner_0 rfl (lv_at hl 0 rfl) ?_
  refine va_get (D := D) (ci := 8) (v := .ref ro) (C := RX8) (T := TX8) (N := 10) hx hb hts hiX8 hown hK hP 0 rfl rfl 7 (by decide) (hts (.fieldLink RX8 61 "LedgeLeaps" "routes" "LLedgeLeaps$Routes;") (List.mem_of_getElem? (i := 1) rfl)) (fun _ h9 => h9) rfl dX8_spreadFromRunner_1 ?_
  refine lv_aload_n hx hb dX8_spreadFromRunner_4 rfl (lv_at hl 0 rfl) ?_
  refine va_get (D := D) (ci := 8) (v := .ref re) (C := RX8) (T := TX8) (N := 10) hx hb hts hiX8 hown hK hP 0 rfl rfl 6 (by decide) (hts (.fieldLink RX8 54 "LedgeLeaps" "reaches" "LLedgeLeaps$Reaches;") (List.mem_of_getElem? (i := 2) rfl)) (fun _ h9 => h9) rfl dX8_spreadFromRunner_5 ?_
  refine lv_aload_n hx hb dX8_spreadFromRunner_8 rfl (lv_at hl 0 rfl) ?_
  refine cV_i CF hK hN hA hS (cut_of 10 [0, 1, 2, 3, 4, 5, 6, 7, 8, 9] hP hD rfl rfl rfl) (m_runnersLedge l D cI cZ cW cJ A (oX5 ro rog rsp rqu rta rut :: aI cI rog 4 gog :: aI cI rsp 400 gsp :: aI cI rqu 100 gqu :: oX4 re (nI sz) rl rf :: aI cI rl 10000 glr :: X) xo hi sn tx f mm re ro mk rk mro mfi mle mlo glo sz w wb ws wc wr wl ww wf) (cwV 0 hts gX8_spreadFromRunner_X8_runnersLedge rfl rfl rfl (by decide +kernel) ⟨Nat.le_of_ble_eq_true rfl, Nat.le_of_ble_eq_true rfl⟩) (As := []) (rest := [.ref re, .ref ro]) (ci := 8) (q0 := 0) rfl rfl rfl hl.1 rfl (Nat.le_of_ble_eq_true rfl) dX8_spreadFromRunner_9 ⟨Nat.le_of_ble_eq_true rfl, Nat.le_of_ble_eq_true rfl⟩ (fun r_9 _ H locs hq hP hD hS => ?_)
  have hq : r_9 = laX glo wc wr := hq
  subst hq
  have hP : va_P D vwCl (oX8 xo w hi sn tx f mm re ro (bI mk) (bI rk) :: oX2 mm mro mfi mle (nI sz) mlo :: aI cI mlo 200 glo :: oX7 w wb ws wc wr wl ww wf :: oX5 ro rog rsp rqu rta rut :: aI cI rog 4 gog :: aI cI rsp 400 gsp :: aI cI rqu 100 gqu :: oX4 re (nI sz) rl rf :: aI cI rl 10000 glr :: X) H := pm_P hP 10 [0, 1, 2, 3, 4, 5, 6, 7, 8, 9] rfl
  have hD : va_D A (oX8 xo w hi sn tx f mm re ro (bI mk) (bI rk) :: oX2 mm mro mfi mle (nI sz) mlo :: aI cI mlo 200 glo :: oX7 w wb ws wc wr wl ww wf :: oX5 ro rog rsp rqu rta rut :: aI cI rog 4 gog :: aI cI rsp 400 gsp :: aI cI rqu 100 gqu :: oX4 re (nI sz) rl rf :: aI cI rl 10000 glr :: X) := pm_D hD 10 [0, 1, 2, 3, 4, 5, 6, 7, 8, 9] rfl rfl rfl
  refine top_i (y := (nI ow)) hlw ?_
  refine lv_iconst (v := 0) hx hb dX8_spreadFromRunner_12 (by decide) ?_
  refine cV_v CF hK hN hA hS (cut_of 10 [4, 5, 6, 7, 8, 9, 0, 1, 2, 3] hP hD rfl rfl rfl) (m_spreadFrom l D cI cZ cW cJ A (oX8 xo w hi sn tx f mm re ro (bI mk) (bI rk) :: oX2 mm mro mfi mle (nI sz) mlo :: aI cI mlo 200 glo :: oX7 w wb ws wc wr wl ww wf :: X) ro rog rsp rqu rta rut gog gsp gqu re rl rf glr sz ow 0 hsz how (by decide) hrt) (cwV 3 hts gX8_spreadFromRunner_X5_spreadFrom rfl rfl rfl (by decide +kernel) ⟨Nat.le_of_ble_eq_true rfl, Nat.le_of_ble_eq_true rfl⟩) (As := [.ref re, .int (nI ow), .int 0]) (rest := []) (ci := 5) (q0 := 0) rfl rfl rfl hl.1 rfl (Nat.le_of_ble_eq_true rfl) dX8_spreadFromRunner_13 ⟨Nat.le_of_ble_eq_true rfl, Nat.le_of_ble_eq_true rfl⟩ (fun u_13 H locs hq hP hD hS => ?_)
  have hq_13 : RtOK glr sz u_13.1 u_13.2.1 ∧ u_13.1 0 = nI ow ∧ ∀ k, k ≠ 0 → u_13.1 k = gog k := hq
  have hP : va_P D vwCl (oX8 xo w hi sn tx f mm re ro (bI mk) (bI rk) :: oX2 mm mro mfi mle (nI sz) mlo :: aI cI mlo 200 glo :: oX7 w wb ws wc wr wl ww wf :: oX5 ro rog rsp rqu rta rut :: aI cI rog 4 u_13.1 :: aI cI rsp 400 u_13.2.1 :: aI cI rqu 100 u_13.2.2 :: oX4 re (nI sz) rl rf :: aI cI rl 10000 glr :: X) H := pm_P hP 10 [6, 7, 8, 9, 0, 1, 2, 3, 4, 5] rfl
  have hD : va_D A (oX8 xo w hi sn tx f mm re ro (bI mk) (bI rk) :: oX2 mm mro mfi mle (nI sz) mlo :: aI cI mlo 200 glo :: oX7 w wb ws wc wr wl ww wf :: oX5 ro rog rsp rqu rta rut :: aI cI rog 4 u_13.1 :: aI cI rsp 400 u_13.2.1 :: aI cI rqu 100 u_13.2.2 :: oX4 re (nI sz) rl rf :: aI cI rl 10000 glr :: X) := pm_D hD 10 [6, 7, 8, 9, 0, 1, 2, 3, 4, 5] rfl rfl rfl
  refine lv_aload_n hx hb dX8_spreadFromRunner_16 rfl (lv_at hl 0 rfl) ?_
  refine va_get (D := D) (ci := 8) (v := .ref ro) (C := RX8) (T := TX8) (N := 10) hx hb hts hiX8 hown hK hP 0 rfl rfl 7 (by decide) (hts (.fieldLink RX8 61 "LedgeLeaps" "routes" "LLedgeLeaps$Routes;") (List.mem_of_getElem? (i := 1) rfl)) (fun _ h9 => h9) rfl dX8_spreadFromRunner_17 ?_
  refine lv_aload_n hx hb dX8_spreadFromRunner_20 rfl (lv_at hl 0 rfl) ?_
  refine va_get (D := D) (ci := 8) (v := .ref re) (C := RX8) (T := TX8) (N := 10) hx hb hts hiX8 hown hK hP 0 rfl rfl 6 (by decide) (hts (.fieldLink RX8 54 "LedgeLeaps" "reaches" "LLedgeLeaps$Reaches;") (List.mem_of_getElem? (i := 2) rfl)) (fun _ h9 => h9) rfl dX8_spreadFromRunner_21 ?_
  refine lv_aload_n hx hb dX8_spreadFromRunner_24 rfl (lv_at hl 0 rfl) ?_
  refine cV_i CF hK hN hA hS (cut_of 10 [0, 1, 2, 3, 4, 5, 6, 7, 8, 9] hP hD rfl rfl rfl) (m_runnersLedge l D cI cZ cW cJ A (oX5 ro rog rsp rqu rta rut :: aI cI rog 4 u_13.1 :: aI cI rsp 400 u_13.2.1 :: aI cI rqu 100 u_13.2.2 :: oX4 re (nI sz) rl rf :: aI cI rl 10000 glr :: X) xo hi sn tx f mm re ro mk rk mro mfi mle mlo glo sz w wb ws wc wr wl ww wf) (cwV 0 hts gX8_spreadFromRunner_X8_runnersLedge rfl rfl rfl (by decide +kernel) ⟨Nat.le_of_ble_eq_true rfl, Nat.le_of_ble_eq_true rfl⟩) (As := []) (rest := [.ref re, .ref ro]) (ci := 8) (q0 := 0) rfl rfl rfl hl.1 rfl (Nat.le_of_ble_eq_true rfl) dX8_spreadFromRunner_25 ⟨Nat.le_of_ble_eq_true rfl, Nat.le_of_ble_eq_true rfl⟩ (fun r_25 _ H locs hq hP hD hS => ?_)
  have hq : r_25 = laX glo wc wr := hq
  subst hq
  have hP : va_P D vwCl (oX8 xo w hi sn tx f mm re ro (bI mk) (bI rk) :: oX2 mm mro mfi mle (nI sz) mlo :: aI cI mlo 200 glo :: oX7 w wb ws wc wr wl ww wf :: oX5 ro rog rsp rqu rta rut :: aI cI rog 4 u_13.1 :: aI cI rsp 400 u_13.2.1 :: aI cI rqu 100 u_13.2.2 :: oX4 re (nI sz) rl rf :: aI cI rl 10000 glr :: X) H := pm_P hP 10 [0, 1, 2, 3, 4, 5, 6, 7, 8, 9] rfl
  have hD : va_D A (oX8 xo w hi sn tx f mm re ro (bI mk) (bI rk) :: oX2 mm mro mfi mle (nI sz) mlo :: aI cI mlo 200 glo :: oX7 w wb ws wc wr wl ww wf :: oX5 ro rog rsp rqu rta rut :: aI cI rog 4 u_13.1 :: aI cI rsp 400 u_13.2.1 :: aI cI rqu 100 u_13.2.2 :: oX4 re (nI sz) rl rf :: aI cI rl 10000 glr :: X) := pm_D hD 10 [0, 1, 2, 3, 4, 5, 6, 7, 8, 9] rfl rfl rfl
  refine top_i (y := (nI ow)) hlw ?_
  refine lv_iconst (v := 3) hx hb dX8_spreadFromRunner_28 (by decide) ?_
  refine cV_v CF hK hN hA hS (cut_of 10 [4, 5, 6, 7, 8, 9, 0, 1, 2, 3] hP hD rfl rfl rfl) (m_spreadFrom l D cI cZ cW cJ A (oX8 xo w hi sn tx f mm re ro (bI mk) (bI rk) :: oX2 mm mro mfi mle (nI sz) mlo :: aI cI mlo 200 glo :: oX7 w wb ws wc wr wl ww wf :: X) ro rog rsp rqu rta rut u_13.1 u_13.2.1 u_13.2.2 re rl rf glr sz ow 3 hsz how (by decide) hq_13.1) (cwV 3 hts gX8_spreadFromRunner_X5_spreadFrom rfl rfl rfl (by decide +kernel) ⟨Nat.le_of_ble_eq_true rfl, Nat.le_of_ble_eq_true rfl⟩) (As := [.ref re, .int (nI ow), .int 3]) (rest := []) (ci := 5) (q0 := 0) rfl rfl rfl hl.1 rfl (Nat.le_of_ble_eq_true rfl) dX8_spreadFromRunner_29 ⟨Nat.le_of_ble_eq_true rfl, Nat.le_of_ble_eq_true rfl⟩ (fun u_29 H locs hq hP hD hS => ?_)
  have hq_29 : RtOK glr sz u_29.1 u_29.2.1 ∧ u_29.1 3 = nI ow ∧ ∀ k, k ≠ 3 → u_29.1 k = u_13.1 k := hq
  have hP : va_P D vwCl (oX8 xo w hi sn tx f mm re ro (bI mk) (bI rk) :: oX2 mm mro mfi mle (nI sz) mlo :: aI cI mlo 200 glo :: oX7 w wb ws wc wr wl ww wf :: oX5 ro rog rsp rqu rta rut :: aI cI rog 4 u_29.1 :: aI cI rsp 400 u_29.2.1 :: aI cI rqu 100 u_29.2.2 :: oX4 re (nI sz) rl rf :: aI cI rl 10000 glr :: X) H := pm_P hP 10 [6, 7, 8, 9, 0, 1, 2, 3, 4, 5] rfl
  have hD : va_D A (oX8 xo w hi sn tx f mm re ro (bI mk) (bI rk) :: oX2 mm mro mfi mle (nI sz) mlo :: aI cI mlo 200 glo :: oX7 w wb ws wc wr wl ww wf :: oX5 ro rog rsp rqu rta rut :: aI cI rog 4 u_29.1 :: aI cI rsp 400 u_29.2.1 :: aI cI rqu 100 u_29.2.2 :: oX4 re (nI sz) rl rf :: aI cI rl 10000 glr :: X) := pm_D hD 10 [6, 7, 8, 9, 0, 1, 2, 3, 4, 5] rfl rfl rfl
  exact W.vret hx hb hr (fun t9 ht9 hW9 => ⟨⟨u_29, rfl, ⟨hq_29.1, by rw [hq_29.2.2 0 (by decide)]; exact hq_13.2.1, hq_29.2.1⟩, by rw [ht9]; exact hP, hD⟩, hS.F ht9⟩) hS.2.2 dX8_spreadFromRunner_32
set_option maxHeartbeats 4000000 in
set_option maxRecDepth 100000 in
theorem m_isReached (l : Launch) (D : va_G) (cI cZ cW cJ : ClassId) (A : Nat → Prop) (X : va_W) (xo w hi sn tx f mm re ro : Nat) (mk rk : Bool) (rog rsp rqu rta : Nat) (rut : Int32) (gsp : Nat → Int32) (ab ak : Nat) (hab : ab < 100) (hak : ak < 4) : Met l yX8_isReached wsX8_isReached ({ frames := 2, cells := 0, slots := 0, locals := 43 }) (va_Pc [.ref xo, .int (nI ab), .int (nI ak)] (wd D (tyL cI cZ cW cJ) A (oX8 xo w hi sn tx f mm re ro (bI mk) (bI rk) :: oX5 ro rog rsp rqu rta rut :: aI cI rsp 400 gsp :: X))) (va_Qi (fun (r : Int32) (u : Unit) => r = bI (rchB gsp ak ab)) (fun (u : Unit) t => wq D A (oX8 xo w hi sn tx f mm re ro (bI mk) (bI rk) :: oX5 ro rog rsp rqu rta rut :: aI cI rsp 400 gsp :: X) t) A) 0 0 A := by
  refine Met.ofW (cc := cX8_isReached) (maxL := 3) (ret := (some .boolean)) (by decide) rfl ?_
  intro p e s m args below meth c s₁ B hml hv
  obtain ⟨rfl, hsz9, hP, hK, hD, hN⟩ := hv
  have hx := B.exec
  have hb := B.bytes
  have hr := B.returns
  have hts := atoms_spec (ws := wsX8_isReached) B.pre
  have hown : s.vm.findClass RX8 = some m.cls := findClass_of_methodNamed B.named
  have hlocks := B.notSynchronized
  have CF : CallFix p m c cX8_isReached 3 s _ wsX8_isReached RX8 := ⟨hx, hb, hml, hown, hts⟩
  have hA : ∀ q : Nat, s.heap.size ≤ q → A q := hsz9
  have hS : va_S A s.heap s.heap [] := va_S.rf
  have hiX8 : ∀ w ∈ u_ws RX8 TX8 10, w ∈ wsX8_isReached := fun _ h => List.mem_cons_of_mem _ (List.mem_append_left _ (List.mem_append_right _ (h)))
  have hl := lv_entry ([.ref xo, .int (nI ab), .int (nI ak)]) (n := 3) (Nat.le_of_ble_eq_true rfl)
  rw [lg_entry_eq]
  generalize (lg_sl ([.ref xo, .int (nI ab), .int (nI ak)]) ++ List.replicate (3 - (lg_sl ([.ref xo, .int (nI ab), .int (nI ak)])).length) Slot.unset).toArray = ls at hl ⊢
  have hl : lv_has ls 3 [(0, .ref xo), (1, .int (nI ab)), (2, .int (nI ak))] := hl
  show W p l e ({ frames := 2, cells := 0, slots := 0, locals := 43 } : Room) s m (([.ref xo, .int (nI ab), .int (nI ak)] : List Value).toArray) below meth c s.heap [] 0 0 (MQ below (va_Qi (fun (r : Int32) (u : Unit) => r = bI (rchB gsp ak ab)) (fun (u : Unit) t => wq D A (oX8 xo w hi sn tx f mm re ro (bI mk) (bI rk) :: oX5 ro rog rsp rqu rta rut :: aI cI rsp 400 gsp :: X) t) A) (([.ref xo, .int (nI ab), .int (nI ak)] : List Value).toArray) s 0 0 A) (F0 m 0 ls [])
  refine lv_aload_n hx hb dX8_isReached_0 rfl (lv_at hl 0 rfl) ?_
  refine va_get (D := D) (ci := 8) (v := .ref ro) (C := RX8) (T := TX8) (N := 10) hx hb hts hiX8 hown hK hP 0 rfl rfl 7 (by decide) (hts (.fieldLink RX8 61 "LedgeLeaps" "routes" "LLedgeLeaps$Routes;") (List.mem_of_getElem? (i := 1) rfl)) (fun _ h9 => h9) rfl dX8_isReached_1 ?_
  refine lv_iload_n hx hb dX8_isReached_4 rfl (lv_at hl 1 rfl) ?_
  refine lv_iload_n hx hb dX8_isReached_5 rfl (lv_at hl 2 rfl) ?_
  refine cV_i CF hK hN hA hS (cut_of 3 [1, 2, 0] hP hD rfl rfl rfl) (m_bySpread l D cI cZ cW cJ A (oX8 xo w hi sn tx f mm re ro (bI mk) (bI rk) :: X) ro rog rsp rqu rta rut gsp ab ak hab hak) (cwV 2 hts gX8_isReached_X5_leapsBySpreading rfl rfl rfl (by decide +kernel) ⟨Nat.le_of_ble_eq_true rfl, Nat.le_of_ble_eq_true rfl⟩) (As := [.int (nI ab), .int (nI ak)]) (rest := []) (ci := 5) (q0 := 0) rfl rfl rfl hl.1 rfl (Nat.le_of_ble_eq_true rfl) dX8_isReached_6 ⟨Nat.le_of_ble_eq_true rfl, Nat.le_of_ble_eq_true rfl⟩ (fun r_6 _ H locs hq hP hD hS => ?_)
  have hq : r_6 = gsp (100 * ak + ab) := hq
  subst hq
  have hP : va_P D vwCl (oX8 xo w hi sn tx f mm re ro (bI mk) (bI rk) :: oX5 ro rog rsp rqu rta rut :: aI cI rsp 400 gsp :: X) H := pm_P hP 3 [2, 0, 1] rfl
  have hD : va_D A (oX8 xo w hi sn tx f mm re ro (bI mk) (bI rk) :: oX5 ro rog rsp rqu rta rut :: aI cI rsp 400 gsp :: X) := pm_D hD 3 [2, 0, 1] rfl rfl rfl
  refine lv_iconst (v := (-1)) hx hb dX8_isReached_9 (by decide) ?_
  refine lv_icmp_eq (tgt := 17) hx hb dX8_isReached_10 (by decide) (fun c_10 => ?_) (fun c_10 => ?_)
  · refine lv_iconst (v := 0) hx hb dX8_isReached_17 (by decide) ?_
    exact W.zret (v := 0) (ty := .boolean) hx hb hr (rfl) (fun t9 ht9 hW9 => ⟨⟨0, (), rfl, by simp [bI, rchB, c_10], by rw [ht9]; exact hP, hD⟩, hS.F ht9⟩) hS.2.2 dX8_isReached_18
  · refine lv_iconst (v := 1) hx hb dX8_isReached_13 (by decide) ?_
    refine lv_goto (tgt := 18) hx hb dX8_isReached_14 (by decide) ?_
    exact W.zret (v := 1) (ty := .boolean) hx hb hr (rfl) (fun t9 ht9 hW9 => ⟨⟨1, (), rfl, by simp [bI, rchB, c_10], by rw [ht9]; exact hP, hD⟩, hS.F ht9⟩) hS.2.2 dX8_isReached_18
set_option maxHeartbeats 4000000 in
set_option maxRecDepth 100000 in
theorem m_reachedLedges (l : Launch) (D : va_G) (cI cZ cW cJ : ClassId) (A : Nat → Prop) (X : va_W) (xo w hi sn tx f mm re ro : Nat) (mk rk : Bool) (mro mfi mle mlo : Nat) (sz : Nat) (rog rsp rqu rta : Nat) (rut : Int32) (gsp : Nat → Int32) (hsz : sz ≤ 100) : Met l yX8_reachedLedges wsX8_reachedLedges ({ frames := 3, cells := 0, slots := 0, locals := 65 }) (va_Pc [.ref xo] (wd D (tyL cI cZ cW cJ) A (oX8 xo w hi sn tx f mm re ro (bI mk) (bI rk) :: oX2 mm mro mfi mle (nI sz) mlo :: oX5 ro rog rsp rqu rta rut :: aI cI rsp 400 gsp :: X))) (va_Qi (fun (r : Int32) (u : Unit) => r = nI (cntB (rchB gsp 3) sz)) (fun (u : Unit) t => wq D A (oX8 xo w hi sn tx f mm re ro (bI mk) (bI rk) :: oX2 mm mro mfi mle (nI sz) mlo :: oX5 ro rog rsp rqu rta rut :: aI cI rsp 400 gsp :: X) t) A) 0 0 A := by
  refine Met.ofW (cc := cX8_reachedLedges) (maxL := 3) (ret := (some .int)) (by decide) rfl ?_
  intro p e s m args below meth c s₁ B hml hv
  obtain ⟨rfl, hsz9, hP, hK, hD, hN⟩ := hv
  have hx := B.exec
  have hb := B.bytes
  have hr := B.returns
  have hts := atoms_spec (ws := wsX8_reachedLedges) B.pre
  have hown : s.vm.findClass RX8 = some m.cls := findClass_of_methodNamed B.named
  have hlocks := B.notSynchronized
  have CF : CallFix p m c cX8_reachedLedges 3 s _ wsX8_reachedLedges RX8 := ⟨hx, hb, hml, hown, hts⟩
  have hA : ∀ q : Nat, s.heap.size ≤ q → A q := hsz9
  have hS : va_S A s.heap s.heap [] := va_S.rf
  have hiX2 : ∀ w ∈ u_ws RX2 TX2 5, w ∈ wsX8_reachedLedges := fun _ h => List.mem_cons_of_mem _ (List.mem_append_left _ (List.mem_append_right _ (h)))
  have hiX8 : ∀ w ∈ u_ws RX8 TX8 10, w ∈ wsX8_reachedLedges := fun _ h => List.mem_cons_of_mem _ (List.mem_append_left _ (List.mem_append_left _ (List.mem_append_right _ (h))))
  have hl := lv_entry ([.ref xo]) (n := 3) (Nat.le_of_ble_eq_true rfl)
  rw [lg_entry_eq]
  generalize (lg_sl ([.ref xo]) ++ List.replicate (3 - (lg_sl ([.ref xo])).length) Slot.unset).toArray = ls at hl ⊢
  have hl : lv_has ls 3 [(0, .ref xo)] := hl
  show W p l e ({ frames := 3, cells := 0, slots := 0, locals := 65 } : Room) s m (([.ref xo] : List Value).toArray) below meth c s.heap [] 0 0 (MQ below (va_Qi (fun (r : Int32) (u : Unit) => r = nI (cntB (rchB gsp 3) sz)) (fun (u : Unit) t => wq D A (oX8 xo w hi sn tx f mm re ro (bI mk) (bI rk) :: oX2 mm mro mfi mle (nI sz) mlo :: oX5 ro rog rsp rqu rta rut :: aI cI rsp 400 gsp :: X) t) A) (([.ref xo] : List Value).toArray) s 0 0 A) (F0 m 0 ls [])
  refine lv_iconst (v := 0) hx hb dX8_reachedLedges_0 (by decide) ?_
  refine lv_istore_n (lv' := [(1, .int 0), (0, .ref xo)]) hx hb dX8_reachedLedges_1 rfl hl (by decide) rfl (fun ls hl => ?_)
  refine lv_iconst (v := 0) hx hb dX8_reachedLedges_2 (by decide) ?_
  refine lv_istore_n (lv' := [(2, .int 0), (1, .int 0), (0, .ref xo)]) hx hb dX8_reachedLedges_3 rfl hl (by decide) rfl (fun ls hl => ?_)
  have loop_4 : ∀ (nfu : Nat) (i n : Nat) (hn_4 : sz - i < nfu) (hi9 : i ≤ sz) (hn : n = cntB (rchB gsp 3) i) (H : Heap) (locs : List Loc) (hP : va_P D vwCl (oX8 xo w hi sn tx f mm re ro (bI mk) (bI rk) :: oX2 mm mro mfi mle (nI sz) mlo :: oX5 ro rog rsp rqu rta rut :: aI cI rsp 400 gsp :: X) H) (hD : va_D A (oX8 xo w hi sn tx f mm re ro (bI mk) (bI rk) :: oX2 mm mro mfi mle (nI sz) mlo :: oX5 ro rog rsp rqu rta rut :: aI cI rsp 400 gsp :: X)) (hS : va_S A s.heap H locs) (ls : Array Slot) (hl : lv_has ls 3 [(2, .int (nI i)), (1, .int (nI n)), (0, .ref xo)]), W p l e ({ frames := 3, cells := 0, slots := 0, locals := 65 } : Room) s m (([.ref xo] : List Value).toArray) below meth c H locs 0 0 (MQ below (va_Qi (fun (r : Int32) (u : Unit) => r = nI (cntB (rchB gsp 3) sz)) (fun (u : Unit) t => wq D A (oX8 xo w hi sn tx f mm re ro (bI mk) (bI rk) :: oX2 mm mro mfi mle (nI sz) mlo :: oX5 ro rog rsp rqu rta rut :: aI cI rsp 400 gsp :: X) t) A) (([.ref xo] : List Value).toArray) s 0 0 A) (F0 m 4 ls []) := by
    intro nfu
    induction nfu with
    | zero => intro i n hn_4; exact absurd hn_4 (Nat.not_lt_zero _)
    | succ nfu ih_4 =>
      intro i n hn_4 hi9 hn H locs hP hD hS ls hl
      refine lv_iload_n hx hb dX8_reachedLedges_4 rfl (lv_at hl 0 rfl) ?_
      refine lv_aload_n hx hb dX8_reachedLedges_5 rfl (lv_at hl 2 rfl) ?_
      refine va_get (D := D) (ci := 8) (v := .ref mm) (C := RX8) (T := TX8) (N := 10) hx hb hts hiX8 hown hK hP 0 rfl rfl 5 (by decide) (hts (.fieldLink RX8 47 "LedgeLeaps" "map" "LLedgeLeaps$LedgeMap;") (List.mem_of_getElem? (i := 1) rfl)) (fun _ h9 => h9) rfl dX8_reachedLedges_6 ?_
      refine va_get (D := D) (ci := 2) (v := .int (nI sz)) (C := RX2) (T := TX2) (N := 5) hx hb hts hiX2 hown hK hP 1 rfl rfl 3 (by decide) (hts (.fieldLink RX8 370 "LedgeLeaps$LedgeMap" "size" "I") (List.mem_of_getElem? (i := 2) rfl)) (fun _ h9 => h9) rfl dX8_reachedLedges_9 ?_
      refine lv_icmp_ge (tgt := 33) hx hb dX8_reachedLedges_12 (by decide) (fun c_12 => ?_) (fun c_12 => ?_)
      · refine lv_iload_n hx hb dX8_reachedLedges_33 rfl (lv_at hl 1 rfl) ?_
        exact W.iret (v := (nI n)) hx hb hr (fun t9 ht9 hW9 => ⟨⟨(nI n), (), rfl, by rw [hn, show i = sz by have h := le_of_ge (a := sz) (b := i) (by omega) (by omega) c_12; omega], by rw [ht9]; exact hP, hD⟩, hS.F ht9⟩) hS.2.2 dX8_reachedLedges_34
      · have hi2 : i < sz := lt_of_nge (a := sz) (b := i) (by omega) (by omega) c_12
        refine lv_aload_n hx hb dX8_reachedLedges_15 rfl (lv_at hl 2 rfl) ?_
        refine lv_iload_n hx hb dX8_reachedLedges_16 rfl (lv_at hl 0 rfl) ?_
        refine lv_iconst (v := 3) hx hb dX8_reachedLedges_17 (by decide) ?_
        refine cV_i CF hK hN hA hS (cut_of 4 [0, 2, 3, 1] hP hD rfl rfl rfl) (m_isReached l D cI cZ cW cJ A (oX2 mm mro mfi mle (nI sz) mlo :: X) xo w hi sn tx f mm re ro mk rk rog rsp rqu rta rut gsp i 3 (by omega) (by decide)) (cwV 2 hts gX8_reachedLedges_X8_isReached rfl rfl rfl (by decide +kernel) ⟨Nat.le_of_ble_eq_true rfl, Nat.le_of_ble_eq_true rfl⟩) (As := [.int (nI i), .int 3]) (rest := []) (ci := 8) (q0 := 0) rfl rfl rfl hl.1 rfl (Nat.le_of_ble_eq_true rfl) dX8_reachedLedges_18 ⟨Nat.le_of_ble_eq_true rfl, Nat.le_of_ble_eq_true rfl⟩ (fun r_18 _ H locs hq hP hD hS => ?_)
        have hq : r_18 = bI (rchB gsp 3 i) := hq
        subst hq
        have hP : va_P D vwCl (oX8 xo w hi sn tx f mm re ro (bI mk) (bI rk) :: oX2 mm mro mfi mle (nI sz) mlo :: oX5 ro rog rsp rqu rta rut :: aI cI rsp 400 gsp :: X) H := pm_P hP 4 [0, 3, 1, 2] rfl
        have hD : va_D A (oX8 xo w hi sn tx f mm re ro (bI mk) (bI rk) :: oX2 mm mro mfi mle (nI sz) mlo :: oX5 ro rog rsp rqu rta rut :: aI cI rsp 400 gsp :: X) := pm_D hD 4 [0, 3, 1, 2] rfl rfl rfl
        refine lv_if_eq (tgt := 27) hx hb dX8_reachedLedges_21 (by decide) (fun c_21 => ?_) (fun c_21 => ?_)
        · refine lv_iinc (v := (nI (i + 1))) (lv' := [(2, .int (nI (i + 1))), (1, .int (nI n)), (0, .ref xo)]) hx hb dX8_reachedLedges_27 hl (k := 0) rfl (nI_1 i) (by decide) rfl (fun ls hl => ?_)
          refine lv_goto (tgt := 4) hx hb dX8_reachedLedges_30 (by decide) ?_
          exact ih_4 (i + 1) n (by omega) (by omega) (by rw [hn, cntB_f (bf_c c_21)]) _ _ (hP) (hD) hS _ (lv_sub hl [0, 1, 2] rfl)
        · refine lv_iinc (v := (nI (n + 1))) (lv' := [(1, .int (nI (n + 1))), (2, .int (nI i)), (0, .ref xo)]) hx hb dX8_reachedLedges_24 hl (k := 1) rfl (nI_1 n) (by decide) rfl (fun ls hl => ?_)
          refine lv_iinc (v := (nI (i + 1))) (lv' := [(2, .int (nI (i + 1))), (1, .int (nI (n + 1))), (0, .ref xo)]) hx hb dX8_reachedLedges_27 hl (k := 1) rfl (nI_1 i) (by decide) rfl (fun ls hl => ?_)
          refine lv_goto (tgt := 4) hx hb dX8_reachedLedges_30 (by decide) ?_
          exact ih_4 (i + 1) (n + 1) (by omega) (by omega) (by rw [hn, cntB_t (bt_c c_21)]) _ _ (hP) (hD) hS _ (lv_sub hl [0, 1, 2] rfl)
  exact loop_4 _ 0 0 (Nat.lt_succ_self _) (Nat.zero_le _) (rfl) _ _ hP hD hS _ (lv_sub hl [0, 1, 2] rfl)
set_option maxHeartbeats 4000000 in
set_option maxRecDepth 100000 in
theorem m_onlyRunningLedge (l : Launch) (D : va_G) (cI cZ cW cJ : ClassId) (A : Nat → Prop) (X : va_W) (xo w hi sn tx f mm re ro : Nat) (mk rk : Bool) (mro mfi mle mlo : Nat) (sz : Nat) (rog rsp rqu rta : Nat) (rut : Int32) (gsp : Nat → Int32) (xr : Int32) (hsz : sz ≤ 100) : Met l yX8_onlyRunningLedge wsX8_onlyRunningLedge ({ frames := 3, cells := 0, slots := 0, locals := 65 }) (va_Pc [.ref xo, .int xr] (wd D (tyL cI cZ cW cJ) A (oX8 xo w hi sn tx f mm re ro (bI mk) (bI rk) :: oX2 mm mro mfi mle (nI sz) mlo :: oX5 ro rog rsp rqu rta rut :: aI cI rsp 400 gsp :: X))) (va_Qi (fun (r : Int32) (u : Unit) => r = onlyF (fun b => rchB gsp 3 b && !rchB gsp 0 b) xr sz 0 0) (fun (u : Unit) t => wq D A (oX8 xo w hi sn tx f mm re ro (bI mk) (bI rk) :: oX2 mm mro mfi mle (nI sz) mlo :: oX5 ro rog rsp rqu rta rut :: aI cI rsp 400 gsp :: X) t) A) 0 0 A := by
  refine Met.ofW (cc := cX8_onlyRunningLedge) (maxL := 4) (ret := (some .int)) (by decide) rfl ?_
  intro p e s m args below meth c s₁ B hml hv
  obtain ⟨rfl, hsz9, hP, hK, hD, hN⟩ := hv
  have hx := B.exec
  have hb := B.bytes
  have hr := B.returns
  have hts := atoms_spec (ws := wsX8_onlyRunningLedge) B.pre
  have hown : s.vm.findClass RX8 = some m.cls := findClass_of_methodNamed B.named
  have hlocks := B.notSynchronized
  have CF : CallFix p m c cX8_onlyRunningLedge 4 s _ wsX8_onlyRunningLedge RX8 := ⟨hx, hb, hml, hown, hts⟩
  have hA : ∀ q : Nat, s.heap.size ≤ q → A q := hsz9
  have hS : va_S A s.heap s.heap [] := va_S.rf
  have hiX2 : ∀ w ∈ u_ws RX2 TX2 5, w ∈ wsX8_onlyRunningLedge := fun _ h => List.mem_cons_of_mem _ (List.mem_append_left _ (List.mem_append_right _ (h)))
  have hiX8 : ∀ w ∈ u_ws RX8 TX8 10, w ∈ wsX8_onlyRunningLedge := fun _ h => List.mem_cons_of_mem _ (List.mem_append_left _ (List.mem_append_left _ (List.mem_append_right _ (h))))
  have hl := lv_entry ([.ref xo, .int xr]) (n := 4) (Nat.le_of_ble_eq_true rfl)
  rw [lg_entry_eq]
  generalize (lg_sl ([.ref xo, .int xr]) ++ List.replicate (4 - (lg_sl ([.ref xo, .int xr])).length) Slot.unset).toArray = ls at hl ⊢
  have hl : lv_has ls 4 [(0, .ref xo), (1, .int xr)] := hl
  show W p l e ({ frames := 3, cells := 0, slots := 0, locals := 65 } : Room) s m (([.ref xo, .int xr] : List Value).toArray) below meth c s.heap [] 0 0 (MQ below (va_Qi (fun (r : Int32) (u : Unit) => r = onlyF (fun b => rchB gsp 3 b && !rchB gsp 0 b) xr sz 0 0) (fun (u : Unit) t => wq D A (oX8 xo w hi sn tx f mm re ro (bI mk) (bI rk) :: oX2 mm mro mfi mle (nI sz) mlo :: oX5 ro rog rsp rqu rta rut :: aI cI rsp 400 gsp :: X) t) A) (([.ref xo, .int xr] : List Value).toArray) s 0 0 A) (F0 m 0 ls [])
  refine lv_iconst (v := 0) hx hb dX8_onlyRunningLedge_0 (by decide) ?_
  refine lv_istore_n (lv' := [(2, .int 0), (0, .ref xo), (1, .int xr)]) hx hb dX8_onlyRunningLedge_1 rfl hl (by decide) rfl (fun ls hl => ?_)
  refine lv_iconst (v := 0) hx hb dX8_onlyRunningLedge_2 (by decide) ?_
  refine lv_istore_n (lv' := [(3, .int 0), (2, .int 0), (0, .ref xo), (1, .int xr)]) hx hb dX8_onlyRunningLedge_3 rfl hl (by decide) rfl (fun ls hl => ?_)
  have loop_4 : ∀ (nfu : Nat) (i b : Nat) (hn_4 : sz - i < nfu) (hi9 : i ≤ sz) (hb9 : b ≤ i) (hv : onlyF (fun b => rchB gsp 3 b && !rchB gsp 0 b) xr (sz - i) i b = onlyF (fun b => rchB gsp 3 b && !rchB gsp 0 b) xr sz 0 0) (H : Heap) (locs : List Loc) (hP : va_P D vwCl (oX8 xo w hi sn tx f mm re ro (bI mk) (bI rk) :: oX2 mm mro mfi mle (nI sz) mlo :: oX5 ro rog rsp rqu rta rut :: aI cI rsp 400 gsp :: X) H) (hD : va_D A (oX8 xo w hi sn tx f mm re ro (bI mk) (bI rk) :: oX2 mm mro mfi mle (nI sz) mlo :: oX5 ro rog rsp rqu rta rut :: aI cI rsp 400 gsp :: X)) (hS : va_S A s.heap H locs) (ls : Array Slot) (hl : lv_has ls 4 [(3, .int (nI i)), (2, .int (nI b)), (0, .ref xo), (1, .int xr)]), W p l e ({ frames := 3, cells := 0, slots := 0, locals := 65 } : Room) s m (([.ref xo, .int xr] : List Value).toArray) below meth c H locs 0 0 (MQ below (va_Qi (fun (r : Int32) (u : Unit) => r = onlyF (fun b => rchB gsp 3 b && !rchB gsp 0 b) xr sz 0 0) (fun (u : Unit) t => wq D A (oX8 xo w hi sn tx f mm re ro (bI mk) (bI rk) :: oX2 mm mro mfi mle (nI sz) mlo :: oX5 ro rog rsp rqu rta rut :: aI cI rsp 400 gsp :: X) t) A) (([.ref xo, .int xr] : List Value).toArray) s 0 0 A) (F0 m 4 ls []) := by
    intro nfu
    induction nfu with
    | zero => intro i b hn_4; exact absurd hn_4 (Nat.not_lt_zero _)
    | succ nfu ih_4 =>
      intro i b hn_4 hi9 hb9 hv H locs hP hD hS ls hl
      refine lv_iload_n hx hb dX8_onlyRunningLedge_4 rfl (lv_at hl 0 rfl) ?_
      refine lv_aload_n hx hb dX8_onlyRunningLedge_5 rfl (lv_at hl 2 rfl) ?_
      refine va_get (D := D) (ci := 8) (v := .ref mm) (C := RX8) (T := TX8) (N := 10) hx hb hts hiX8 hown hK hP 0 rfl rfl 5 (by decide) (hts (.fieldLink RX8 47 "LedgeLeaps" "map" "LLedgeLeaps$LedgeMap;") (List.mem_of_getElem? (i := 1) rfl)) (fun _ h9 => h9) rfl dX8_onlyRunningLedge_6 ?_
      refine va_get (D := D) (ci := 2) (v := .int (nI sz)) (C := RX2) (T := TX2) (N := 5) hx hb hts hiX2 hown hK hP 1 rfl rfl 3 (by decide) (hts (.fieldLink RX8 370 "LedgeLeaps$LedgeMap" "size" "I") (List.mem_of_getElem? (i := 2) rfl)) (fun _ h9 => h9) rfl dX8_onlyRunningLedge_9 ?_
      refine lv_icmp_ge (tgt := 49) hx hb dX8_onlyRunningLedge_12 (by decide) (fun c_12 => ?_) (fun c_12 => ?_)
      · refine lv_iconst (v := (-1)) hx hb dX8_onlyRunningLedge_49 (by decide) ?_
        exact W.iret (v := (-1)) hx hb hr (fun t9 ht9 hW9 => ⟨⟨(-1), (), rfl, by rw [← hv, show sz - i = 0 by have h := le_of_ge (a := sz) (b := i) (by omega) (by omega) c_12; omega]; rfl, by rw [ht9]; exact hP, hD⟩, hS.F ht9⟩) hS.2.2 dX8_onlyRunningLedge_50
      · have hi2 : i < sz := lt_of_nge (a := sz) (b := i) (by omega) (by omega) c_12
        refine lv_aload_n hx hb dX8_onlyRunningLedge_15 rfl (lv_at hl 2 rfl) ?_
        refine lv_iload_n hx hb dX8_onlyRunningLedge_16 rfl (lv_at hl 0 rfl) ?_
        refine lv_iconst (v := 3) hx hb dX8_onlyRunningLedge_17 (by decide) ?_
        refine cV_i CF hK hN hA hS (cut_of 4 [0, 2, 3, 1] hP hD rfl rfl rfl) (m_isReached l D cI cZ cW cJ A (oX2 mm mro mfi mle (nI sz) mlo :: X) xo w hi sn tx f mm re ro mk rk rog rsp rqu rta rut gsp i 3 (by omega) (by decide)) (cwV 2 hts gX8_onlyRunningLedge_X8_isReached rfl rfl rfl (by decide +kernel) ⟨Nat.le_of_ble_eq_true rfl, Nat.le_of_ble_eq_true rfl⟩) (As := [.int (nI i), .int 3]) (rest := []) (ci := 8) (q0 := 0) rfl rfl rfl hl.1 rfl (Nat.le_of_ble_eq_true rfl) dX8_onlyRunningLedge_18 ⟨Nat.le_of_ble_eq_true rfl, Nat.le_of_ble_eq_true rfl⟩ (fun r_18 _ H locs hq hP hD hS => ?_)
        have hq : r_18 = bI (rchB gsp 3 i) := hq
        subst hq
        have hP : va_P D vwCl (oX8 xo w hi sn tx f mm re ro (bI mk) (bI rk) :: oX2 mm mro mfi mle (nI sz) mlo :: oX5 ro rog rsp rqu rta rut :: aI cI rsp 400 gsp :: X) H := pm_P hP 4 [0, 3, 1, 2] rfl
        have hD : va_D A (oX8 xo w hi sn tx f mm re ro (bI mk) (bI rk) :: oX2 mm mro mfi mle (nI sz) mlo :: oX5 ro rog rsp rqu rta rut :: aI cI rsp 400 gsp :: X) := pm_D hD 4 [0, 3, 1, 2] rfl rfl rfl
        refine lv_if_eq (tgt := 43) hx hb dX8_onlyRunningLedge_21 (by decide) (fun c_21 => ?_) (fun c_21 => ?_)
        · refine lv_iinc (v := (nI (i + 1))) (lv' := [(3, .int (nI (i + 1))), (2, .int (nI b)), (0, .ref xo), (1, .int xr)]) hx hb dX8_onlyRunningLedge_43 hl (k := 0) rfl (nI_1 i) (by decide) rfl (fun ls hl => ?_)
          refine lv_goto (tgt := 4) hx hb dX8_onlyRunningLedge_46 (by decide) ?_
          exact ih_4 (i + 1) b (by omega) (by omega) (by omega) (by rw [← hv, show sz - i = (sz - (i + 1)) + 1 by omega, onlyF, if_neg (by simp [bf_c c_21])]) _ _ (hP) (hD) hS _ (lv_sub hl [0, 1, 2, 3] rfl)
        · refine lv_aload_n hx hb dX8_onlyRunningLedge_24 rfl (lv_at hl 2 rfl) ?_
          refine lv_iload_n hx hb dX8_onlyRunningLedge_25 rfl (lv_at hl 0 rfl) ?_
          refine lv_iconst (v := 0) hx hb dX8_onlyRunningLedge_26 (by decide) ?_
          refine cV_i CF hK hN hA hS (cut_of 4 [0, 2, 3, 1] hP hD rfl rfl rfl) (m_isReached l D cI cZ cW cJ A (oX2 mm mro mfi mle (nI sz) mlo :: X) xo w hi sn tx f mm re ro mk rk rog rsp rqu rta rut gsp i 0 (by omega) (by decide)) (cwV 2 hts gX8_onlyRunningLedge_X8_isReached rfl rfl rfl (by decide +kernel) ⟨Nat.le_of_ble_eq_true rfl, Nat.le_of_ble_eq_true rfl⟩) (As := [.int (nI i), .int 0]) (rest := []) (ci := 8) (q0 := 0) rfl rfl rfl hl.1 rfl (Nat.le_of_ble_eq_true rfl) dX8_onlyRunningLedge_27 ⟨Nat.le_of_ble_eq_true rfl, Nat.le_of_ble_eq_true rfl⟩ (fun r_27 _ H locs hq hP hD hS => ?_)
          have hq : r_27 = bI (rchB gsp 0 i) := hq
          subst hq
          have hP : va_P D vwCl (oX8 xo w hi sn tx f mm re ro (bI mk) (bI rk) :: oX2 mm mro mfi mle (nI sz) mlo :: oX5 ro rog rsp rqu rta rut :: aI cI rsp 400 gsp :: X) H := pm_P hP 4 [0, 3, 1, 2] rfl
          have hD : va_D A (oX8 xo w hi sn tx f mm re ro (bI mk) (bI rk) :: oX2 mm mro mfi mle (nI sz) mlo :: oX5 ro rog rsp rqu rta rut :: aI cI rsp 400 gsp :: X) := pm_D hD 4 [0, 3, 1, 2] rfl rfl rfl
          refine lv_if_ne (tgt := 43) hx hb dX8_onlyRunningLedge_30 (by decide) (fun c_30 => ?_) (fun c_30 => ?_)
          · refine lv_iinc (v := (nI (i + 1))) (lv' := [(3, .int (nI (i + 1))), (2, .int (nI b)), (0, .ref xo), (1, .int xr)]) hx hb dX8_onlyRunningLedge_43 hl (k := 0) rfl (nI_1 i) (by decide) rfl (fun ls hl => ?_)
            refine lv_goto (tgt := 4) hx hb dX8_onlyRunningLedge_46 (by decide) ?_
            exact ih_4 (i + 1) b (by omega) (by omega) (by omega) (by rw [← hv, show sz - i = (sz - (i + 1)) + 1 by omega, onlyF, if_neg (by simp [bt_c c_30])]) _ _ (hP) (hD) hS _ (lv_sub hl [0, 1, 2, 3] rfl)
          · refine lv_iload_n hx hb dX8_onlyRunningLedge_33 rfl (lv_at hl 1 rfl) ?_
            refine lv_iload_n hx hb dX8_onlyRunningLedge_34 rfl (lv_at hl 3 rfl) ?_
            refine lv_icmp_ne (tgt := 40) hx hb dX8_onlyRunningLedge_35 (by decide) (fun c_35 => ?_) (fun c_35 => ?_)
            · refine lv_iinc (v := (nI (b + 1))) (lv' := [(2, .int (nI (b + 1))), (3, .int (nI i)), (0, .ref xo), (1, .int xr)]) hx hb dX8_onlyRunningLedge_40 hl (k := 1) rfl (nI_1 b) (by decide) rfl (fun ls hl => ?_)
              refine lv_iinc (v := (nI (i + 1))) (lv' := [(3, .int (nI (i + 1))), (2, .int (nI (b + 1))), (0, .ref xo), (1, .int xr)]) hx hb dX8_onlyRunningLedge_43 hl (k := 1) rfl (nI_1 i) (by decide) rfl (fun ls hl => ?_)
              refine lv_goto (tgt := 4) hx hb dX8_onlyRunningLedge_46 (by decide) ?_
              exact ih_4 (i + 1) (b + 1) (by omega) (by omega) (by omega) (by rw [← hv, show sz - i = (sz - (i + 1)) + 1 by omega, onlyF, if_pos (by simp [bt_c c_21, bf_c c_30]), if_neg c_35]) _ _ (hP) (hD) hS _ (lv_sub hl [0, 1, 2, 3] rfl)
            · refine lv_iload_n hx hb dX8_onlyRunningLedge_38 rfl (lv_at hl 0 rfl) ?_
              exact W.iret (v := (nI i)) hx hb hr (fun t9 ht9 hW9 => ⟨⟨(nI i), (), rfl, by rw [← hv, show sz - i = (sz - (i + 1)) + 1 by omega, onlyF, if_pos (by simp [bt_c c_21, bf_c c_30]), if_pos c_35], by rw [ht9]; exact hP, hD⟩, hS.F ht9⟩) hS.2.2 dX8_onlyRunningLedge_39
  exact loop_4 _ 0 0 (Nat.lt_succ_self _) (Nat.zero_le _) (Nat.zero_le _) (rfl) _ _ hP hD hS _ (lv_sub hl [0, 1, 2, 3] rfl)
set_option maxHeartbeats 4000000 in
set_option maxRecDepth 100000 in
theorem m_shareOfReached (l : Launch) (D : va_G) (cI cZ cW cJ : ClassId) (A : Nat → Prop) (X : va_W) (xo w hi sn tx f mm re ro : Nat) (mk rk : Bool) (mro mfi mle mlo : Nat) (sz : Nat) (rog rsp rqu rta : Nat) (rut : Int32) (gsp : Nat → Int32) (hsz : sz ≤ 100) (hsz1 : 1 ≤ sz) : Met l yX8_shareOfReached wsX8_shareOfReached ({ frames := 4, cells := 0, slots := 0, locals := 87 }) (va_Pc [.ref xo] (wd D (tyL cI cZ cW cJ) A (oX8 xo w hi sn tx f mm re ro (bI mk) (bI rk) :: oX2 mm mro mfi mle (nI sz) mlo :: oX5 ro rog rsp rqu rta rut :: aI cI rsp 400 gsp :: X))) (va_Qd (fun (r : UInt64) (u : Unit) => r = FP.ddiv (FP.i2d (nI (cntB (rchB gsp 3) sz))) (FP.i2d (nI sz))) (fun (u : Unit) t => wq D A (oX8 xo w hi sn tx f mm re ro (bI mk) (bI rk) :: oX2 mm mro mfi mle (nI sz) mlo :: oX5 ro rog rsp rqu rta rut :: aI cI rsp 400 gsp :: X) t) A) 0 0 A := by
  refine Met.ofW (cc := cX8_shareOfReached) (maxL := 1) (ret := (some .double)) (by decide) rfl ?_
  intro p e s m args below meth c s₁ B hml hv
  obtain ⟨rfl, hsz9, hP, hK, hD, hN⟩ := hv
  have hx := B.exec
  have hb := B.bytes
  have hr := B.returns
  have hts := atoms_spec (ws := wsX8_shareOfReached) B.pre
  have hown : s.vm.findClass RX8 = some m.cls := findClass_of_methodNamed B.named
  have hlocks := B.notSynchronized
  have CF : CallFix p m c cX8_shareOfReached 1 s _ wsX8_shareOfReached RX8 := ⟨hx, hb, hml, hown, hts⟩
  have hA : ∀ q : Nat, s.heap.size ≤ q → A q := hsz9
  have hS : va_S A s.heap s.heap [] := va_S.rf
  have hiX2 : ∀ w ∈ u_ws RX2 TX2 5, w ∈ wsX8_shareOfReached := fun _ h => List.mem_cons_of_mem _ (List.mem_append_left _ (List.mem_append_right _ (h)))
  have hiX8 : ∀ w ∈ u_ws RX8 TX8 10, w ∈ wsX8_shareOfReached := fun _ h => List.mem_cons_of_mem _ (List.mem_append_left _ (List.mem_append_left _ (List.mem_append_right _ (h))))
  have hl := lv_entry ([.ref xo]) (n := 1) (Nat.le_of_ble_eq_true rfl)
  rw [lg_entry_eq]
  generalize (lg_sl ([.ref xo]) ++ List.replicate (1 - (lg_sl ([.ref xo])).length) Slot.unset).toArray = ls at hl ⊢
  have hl : lv_has ls 1 [(0, .ref xo)] := hl
  show W p l e ({ frames := 4, cells := 0, slots := 0, locals := 87 } : Room) s m (([.ref xo] : List Value).toArray) below meth c s.heap [] 0 0 (MQ below (va_Qd (fun (r : UInt64) (u : Unit) => r = FP.ddiv (FP.i2d (nI (cntB (rchB gsp 3) sz))) (FP.i2d (nI sz))) (fun (u : Unit) t => wq D A (oX8 xo w hi sn tx f mm re ro (bI mk) (bI rk) :: oX2 mm mro mfi mle (nI sz) mlo :: oX5 ro rog rsp rqu rta rut :: aI cI rsp 400 gsp :: X) t) A) (([.ref xo] : List Value).toArray) s 0 0 A) (F0 m 0 ls [])
  refine lv_aload_n hx hb dX8_shareOfReached_0 rfl (lv_at hl 0 rfl) ?_
  refine va_get (D := D) (ci := 8) (v := .ref mm) (C := RX8) (T := TX8) (N := 10) hx hb hts hiX8 hown hK hP 0 rfl rfl 5 (by decide) (hts (.fieldLink RX8 47 "LedgeLeaps" "map" "LLedgeLeaps$LedgeMap;") (List.mem_of_getElem? (i := 1) rfl)) (fun _ h9 => h9) rfl dX8_shareOfReached_1 ?_
  refine va_get (D := D) (ci := 2) (v := .int (nI sz)) (C := RX2) (T := TX2) (N := 5) hx hb hts hiX2 hown hK hP 1 rfl rfl 3 (by decide) (hts (.fieldLink RX8 370 "LedgeLeaps$LedgeMap" "size" "I") (List.mem_of_getElem? (i := 2) rfl)) (fun _ h9 => h9) rfl dX8_shareOfReached_4 ?_
  have c_7 : (0 : Int32) < (nI sz) := Int32.not_le.mp (nI_nle hsz1 (by omega))
  refine lv_if_gt (tgt := 12) hx hb dX8_shareOfReached_7 (by decide) (fun _ => ?_) (fun q => absurd c_7 q)
  refine lv_aload_n hx hb dX8_shareOfReached_12 rfl (lv_at hl 0 rfl) ?_
  refine cV_i CF hK hN hA hS (cut_of 4 [0, 1, 2, 3] hP hD rfl rfl rfl) (m_reachedLedges l D cI cZ cW cJ A (X) xo w hi sn tx f mm re ro mk rk mro mfi mle mlo sz rog rsp rqu rta rut gsp hsz) (cwV 0 hts gX8_shareOfReached_X8_reachedLedges rfl rfl rfl (by decide +kernel) ⟨Nat.le_of_ble_eq_true rfl, Nat.le_of_ble_eq_true rfl⟩) (As := []) (rest := []) (ci := 8) (q0 := 0) rfl rfl rfl hl.1 rfl (Nat.le_of_ble_eq_true rfl) dX8_shareOfReached_13 ⟨Nat.le_of_ble_eq_true rfl, Nat.le_of_ble_eq_true rfl⟩ (fun r_13 _ H locs hq hP hD hS => ?_)
  have hq : r_13 = nI (cntB (rchB gsp 3) sz) := hq
  subst hq
  have hP : va_P D vwCl (oX8 xo w hi sn tx f mm re ro (bI mk) (bI rk) :: oX2 mm mro mfi mle (nI sz) mlo :: oX5 ro rog rsp rqu rta rut :: aI cI rsp 400 gsp :: X) H := pm_P hP 4 [0, 1, 2, 3] rfl
  have hD : va_D A (oX8 xo w hi sn tx f mm re ro (bI mk) (bI rk) :: oX2 mm mro mfi mle (nI sz) mlo :: oX5 ro rog rsp rqu rta rut :: aI cI rsp 400 gsp :: X) := pm_D hD 4 [0, 1, 2, 3] rfl rfl rfl
  refine lv_i2d hx hb dX8_shareOfReached_16 ?_
  refine lv_aload_n hx hb dX8_shareOfReached_17 rfl (lv_at hl 0 rfl) ?_
  refine va_get (D := D) (ci := 8) (v := .ref mm) (C := RX8) (T := TX8) (N := 10) hx hb hts hiX8 hown hK hP 0 rfl rfl 5 (by decide) (hts (.fieldLink RX8 47 "LedgeLeaps" "map" "LLedgeLeaps$LedgeMap;") (List.mem_of_getElem? (i := 1) rfl)) (fun _ h9 => h9) rfl dX8_shareOfReached_18 ?_
  refine va_get (D := D) (ci := 2) (v := .int (nI sz)) (C := RX2) (T := TX2) (N := 5) hx hb hts hiX2 hown hK hP 1 rfl rfl 3 (by decide) (hts (.fieldLink RX8 370 "LedgeLeaps$LedgeMap" "size" "I") (List.mem_of_getElem? (i := 2) rfl)) (fun _ h9 => h9) rfl dX8_shareOfReached_21 ?_
  refine lv_i2d hx hb dX8_shareOfReached_24 ?_
  refine lv_ddiv hx hb dX8_shareOfReached_25 (share_nn hsz1 hsz (cntB_le _ _)) ?_
  exact W.dret (v := (FP.ddiv (FP.i2d (nI (cntB (rchB gsp 3) sz))) (FP.i2d (nI sz)))) hx hb hr (fun t9 ht9 hW9 => ⟨⟨(FP.ddiv (FP.i2d (nI (cntB (rchB gsp 3) sz))) (FP.i2d (nI sz))), (), rfl, rfl, by rw [ht9]; exact hP, hD⟩, hS.F ht9⟩) hS.2.2 dX8_shareOfReached_26
set_option maxHeartbeats 4000000 in
set_option maxRecDepth 100000 in
theorem m_cellNumber (l : Launch) (D : va_G) (cI cZ cW cJ : ClassId) (A : Nat → Prop) (X : va_W) (xo hi sn tx f mm re ro : Nat) (mk rk : Bool) (mro mfi mle mlo : Nat) (glo : Nat → Int32) (sz : Nat) (w wb ws : Nat) (wc wr wl ww wf : Int32) (wbl : Nat → Int32) (xc xr : Int32) (ak : Nat) (hak : ak < 5) : Met l yX8_cellNumber wsX8_cellNumber ({ frames := 3, cells := 0, slots := 0, locals := 69 }) (va_Pc [.ref xo, .int xc, .int xr, .int (nI ak)] (wd D (tyL cI cZ cW cJ) A (oX8 xo w hi sn tx f mm re ro (bI mk) (bI rk) :: oX2 mm mro mfi mle (nI sz) mlo :: aI cI mlo 200 glo :: oX7 w wb ws wc wr wl ww wf :: aI cI wb 10 wbl :: X))) (va_Qi (fun (r : Int32) (u : Unit) => r = cellF (blkX wbl) glo xc xr ak) (fun (u : Unit) t => wq D A (oX8 xo w hi sn tx f mm re ro (bI mk) (bI rk) :: oX2 mm mro mfi mle (nI sz) mlo :: aI cI mlo 200 glo :: oX7 w wb ws wc wr wl ww wf :: aI cI wb 10 wbl :: X) t) A) 0 0 A := by
  refine Met.ofW (cc := cX8_cellNumber) (maxL := 4) (ret := (some .int)) (by decide) rfl ?_
  intro p e s m args below meth c s₁ B hml hv
  obtain ⟨rfl, hsz9, hP, hK, hD, hN⟩ := hv
  have hx := B.exec
  have hb := B.bytes
  have hr := B.returns
  have hts := atoms_spec (ws := wsX8_cellNumber) B.pre
  have hown : s.vm.findClass RX8 = some m.cls := findClass_of_methodNamed B.named
  have hlocks := B.notSynchronized
  have CF : CallFix p m c cX8_cellNumber 4 s _ wsX8_cellNumber RX8 := ⟨hx, hb, hml, hown, hts⟩
  have hA : ∀ q : Nat, s.heap.size ≤ q → A q := hsz9
  have hS : va_S A s.heap s.heap [] := va_S.rf
  have hiX8 : ∀ w ∈ u_ws RX8 TX8 10, w ∈ wsX8_cellNumber := fun _ h => List.mem_cons_of_mem _ (List.mem_append_left _ (List.mem_append_left _ (List.mem_append_right _ (h))))
  have hl := lv_entry ([.ref xo, .int xc, .int xr, .int (nI ak)]) (n := 4) (Nat.le_of_ble_eq_true rfl)
  rw [lg_entry_eq]
  generalize (lg_sl ([.ref xo, .int xc, .int xr, .int (nI ak)]) ++ List.replicate (4 - (lg_sl ([.ref xo, .int xc, .int xr, .int (nI ak)])).length) Slot.unset).toArray = ls at hl ⊢
  have hl : lv_has ls 4 [(0, .ref xo), (1, .int xc), (2, .int xr), (3, .int (nI ak))] := hl
  show W p l e ({ frames := 3, cells := 0, slots := 0, locals := 69 } : Room) s m (([.ref xo, .int xc, .int xr, .int (nI ak)] : List Value).toArray) below meth c s.heap [] 0 0 (MQ below (va_Qi (fun (r : Int32) (u : Unit) => r = cellF (blkX wbl) glo xc xr ak) (fun (u : Unit) t => wq D A (oX8 xo w hi sn tx f mm re ro (bI mk) (bI rk) :: oX2 mm mro mfi mle (nI sz) mlo :: aI cI mlo 200 glo :: oX7 w wb ws wc wr wl ww wf :: aI cI wb 10 wbl :: X) t) A) (([.ref xo, .int xc, .int xr, .int (nI ak)] : List Value).toArray) s 0 0 A) (F0 m 0 ls [])
  refine lv_iload_n hx hb dX8_cellNumber_0 rfl (lv_at hl 3 rfl) ?_
  rcases (show ak = 0 ∨ ak = 1 ∨ ak = 2 ∨ ak = 3 ∨ ak = 4 by omega) with rfl | rfl | rfl | rfl | rfl
  · refine lv_tableIn (tgt := 32) hx hb dX8_cellNumber_1 (by decide) (by decide) rfl (by decide) ?_
    refine lv_aload_n hx hb dX8_cellNumber_32 rfl (lv_at hl 0 rfl) ?_
    refine va_get (D := D) (ci := 8) (v := .ref w) (C := RX8) (T := TX8) (N := 10) hx hb hts hiX8 hown hK hP 0 rfl rfl 0 (by decide) (hts (.fieldLink RX8 12 "LedgeLeaps" "world" "LLedgeLeaps$World;") (List.mem_of_getElem? (i := 1) rfl)) (fun _ h9 => h9) rfl dX8_cellNumber_33 ?_
    refine lv_iload_n hx hb dX8_cellNumber_36 rfl (lv_at hl 1 rfl) ?_
    refine lv_iload_n hx hb dX8_cellNumber_37 rfl (lv_at hl 2 rfl) ?_
    refine cV_i CF hK hN hA hS (cut_of 5 [3, 4, 0, 1, 2] hP hD rfl rfl rfl) (m_isBlock l D cI cZ cW cJ A (oX8 xo w hi sn tx f mm re ro (bI mk) (bI rk) :: oX2 mm mro mfi mle (nI sz) mlo :: aI cI mlo 200 glo :: X) w wb ws wc wr wl ww wf wbl xc xr) (cwV 2 hts gX8_cellNumber_X7_isBlock rfl rfl rfl (by decide +kernel) ⟨Nat.le_of_ble_eq_true rfl, Nat.le_of_ble_eq_true rfl⟩) (As := [.int xc, .int xr]) (rest := []) (ci := 7) (q0 := 0) rfl rfl rfl hl.1 rfl (Nat.le_of_ble_eq_true rfl) dX8_cellNumber_38 ⟨Nat.le_of_ble_eq_true rfl, Nat.le_of_ble_eq_true rfl⟩ (fun r_38 _ H locs hq hP hD hS => ?_)
    have hq : r_38 = bI (blkX wbl xc xr) := hq
    subst hq
    have hP : va_P D vwCl (oX8 xo w hi sn tx f mm re ro (bI mk) (bI rk) :: oX2 mm mro mfi mle (nI sz) mlo :: aI cI mlo 200 glo :: oX7 w wb ws wc wr wl ww wf :: aI cI wb 10 wbl :: X) H := pm_P hP 5 [2, 3, 4, 0, 1] rfl
    have hD : va_D A (oX8 xo w hi sn tx f mm re ro (bI mk) (bI rk) :: oX2 mm mro mfi mle (nI sz) mlo :: aI cI mlo 200 glo :: oX7 w wb ws wc wr wl ww wf :: aI cI wb 10 wbl :: X) := pm_D hD 5 [2, 3, 4, 0, 1] rfl rfl rfl
    refine lv_if_eq (tgt := 48) hx hb dX8_cellNumber_41 (by decide) (fun c_41 => ?_) (fun c_41 => ?_)
    · refine lv_iconst (v := 0) hx hb dX8_cellNumber_48 (by decide) ?_
      exact W.iret (v := 0) hx hb hr (fun t9 ht9 hW9 => ⟨⟨0, (), rfl, by rw [cellF, bf_c c_41]; rfl, by rw [ht9]; exact hP, hD⟩, hS.F ht9⟩) hS.2.2 dX8_cellNumber_49
    · refine lv_iconst (v := 1) hx hb dX8_cellNumber_44 (by decide) ?_
      refine lv_goto (tgt := 49) hx hb dX8_cellNumber_45 (by decide) ?_
      exact W.iret (v := 1) hx hb hr (fun t9 ht9 hW9 => ⟨⟨1, (), rfl, by rw [cellF, bt_c c_41]; rfl, by rw [ht9]; exact hP, hD⟩, hS.F ht9⟩) hS.2.2 dX8_cellNumber_49
  · refine lv_tableIn (tgt := 50) hx hb dX8_cellNumber_1 (by decide) (by decide) rfl (by decide) ?_
    refine lv_aload_n hx hb dX8_cellNumber_50 rfl (lv_at hl 0 rfl) ?_
    refine va_get (D := D) (ci := 8) (v := .ref w) (C := RX8) (T := TX8) (N := 10) hx hb hts hiX8 hown hK hP 0 rfl rfl 0 (by decide) (hts (.fieldLink RX8 12 "LedgeLeaps" "world" "LLedgeLeaps$World;") (List.mem_of_getElem? (i := 1) rfl)) (fun _ h9 => h9) rfl dX8_cellNumber_51 ?_
    refine lv_iload_n hx hb dX8_cellNumber_54 rfl (lv_at hl 1 rfl) ?_
    refine lv_iload_n hx hb dX8_cellNumber_55 rfl (lv_at hl 2 rfl) ?_
    refine cV_i CF hK hN hA hS (cut_of 5 [3, 4, 0, 1, 2] hP hD rfl rfl rfl) (m_canStand l D cI cZ cW cJ A (oX8 xo w hi sn tx f mm re ro (bI mk) (bI rk) :: oX2 mm mro mfi mle (nI sz) mlo :: aI cI mlo 200 glo :: X) w wb ws wc wr wl ww wf wbl xc xr) (cwV 2 hts gX8_cellNumber_X7_canStand rfl rfl rfl (by decide +kernel) ⟨Nat.le_of_ble_eq_true rfl, Nat.le_of_ble_eq_true rfl⟩) (As := [.int xc, .int xr]) (rest := []) (ci := 7) (q0 := 0) rfl rfl rfl hl.1 rfl (Nat.le_of_ble_eq_true rfl) dX8_cellNumber_56 ⟨Nat.le_of_ble_eq_true rfl, Nat.le_of_ble_eq_true rfl⟩ (fun r_56 _ H locs hq hP hD hS => ?_)
    have hq : r_56 = bI (stB (blkX wbl) xc xr) := hq
    subst hq
    have hP : va_P D vwCl (oX8 xo w hi sn tx f mm re ro (bI mk) (bI rk) :: oX2 mm mro mfi mle (nI sz) mlo :: aI cI mlo 200 glo :: oX7 w wb ws wc wr wl ww wf :: aI cI wb 10 wbl :: X) H := pm_P hP 5 [2, 3, 4, 0, 1] rfl
    have hD : va_D A (oX8 xo w hi sn tx f mm re ro (bI mk) (bI rk) :: oX2 mm mro mfi mle (nI sz) mlo :: aI cI mlo 200 glo :: oX7 w wb ws wc wr wl ww wf :: aI cI wb 10 wbl :: X) := pm_D hD 5 [2, 3, 4, 0, 1] rfl rfl rfl
    refine lv_if_eq (tgt := 66) hx hb dX8_cellNumber_59 (by decide) (fun c_59 => ?_) (fun c_59 => ?_)
    · refine lv_iconst (v := 0) hx hb dX8_cellNumber_66 (by decide) ?_
      exact W.iret (v := 0) hx hb hr (fun t9 ht9 hW9 => ⟨⟨0, (), rfl, by rw [cellF, bf_c c_59]; rfl, by rw [ht9]; exact hP, hD⟩, hS.F ht9⟩) hS.2.2 dX8_cellNumber_67
    · refine lv_iconst (v := 1) hx hb dX8_cellNumber_62 (by decide) ?_
      refine lv_goto (tgt := 67) hx hb dX8_cellNumber_63 (by decide) ?_
      exact W.iret (v := 1) hx hb hr (fun t9 ht9 hW9 => ⟨⟨1, (), rfl, by rw [cellF, bt_c c_59]; rfl, by rw [ht9]; exact hP, hD⟩, hS.F ht9⟩) hS.2.2 dX8_cellNumber_67
  · refine lv_tableIn (tgt := 68) hx hb dX8_cellNumber_1 (by decide) (by decide) rfl (by decide) ?_
    refine lv_aload_n hx hb dX8_cellNumber_68 rfl (lv_at hl 0 rfl) ?_
    refine va_get (D := D) (ci := 8) (v := .ref mm) (C := RX8) (T := TX8) (N := 10) hx hb hts hiX8 hown hK hP 0 rfl rfl 5 (by decide) (hts (.fieldLink RX8 47 "LedgeLeaps" "map" "LLedgeLeaps$LedgeMap;") (List.mem_of_getElem? (i := 2) rfl)) (fun _ h9 => h9) rfl dX8_cellNumber_69 ?_
    refine lv_iload_n hx hb dX8_cellNumber_72 rfl (lv_at hl 1 rfl) ?_
    refine lv_iload_n hx hb dX8_cellNumber_73 rfl (lv_at hl 2 rfl) ?_
    refine cV_i CF hK hN hA hS (cut_of 5 [1, 2, 0, 3, 4] hP hD rfl rfl rfl) (m_ledgeAt l D cI cZ cW cJ A (oX8 xo w hi sn tx f mm re ro (bI mk) (bI rk) :: oX7 w wb ws wc wr wl ww wf :: aI cI wb 10 wbl :: X) mm mro mfi mle mlo glo sz xc xr) (cwV 2 hts gX8_cellNumber_X2_ledgeAt rfl rfl rfl (by decide +kernel) ⟨Nat.le_of_ble_eq_true rfl, Nat.le_of_ble_eq_true rfl⟩) (As := [.int xc, .int xr]) (rest := []) (ci := 2) (q0 := 0) rfl rfl rfl hl.1 rfl (Nat.le_of_ble_eq_true rfl) dX8_cellNumber_74 ⟨Nat.le_of_ble_eq_true rfl, Nat.le_of_ble_eq_true rfl⟩ (fun r_74 _ H locs hq hP hD hS => ?_)
    have hq : r_74 = laX glo xc xr := hq
    subst hq
    have hP : va_P D vwCl (oX8 xo w hi sn tx f mm re ro (bI mk) (bI rk) :: oX2 mm mro mfi mle (nI sz) mlo :: aI cI mlo 200 glo :: oX7 w wb ws wc wr wl ww wf :: aI cI wb 10 wbl :: X) H := pm_P hP 5 [2, 0, 1, 3, 4] rfl
    have hD : va_D A (oX8 xo w hi sn tx f mm re ro (bI mk) (bI rk) :: oX2 mm mro mfi mle (nI sz) mlo :: aI cI mlo 200 glo :: oX7 w wb ws wc wr wl ww wf :: aI cI wb 10 wbl :: X) := pm_D hD 5 [2, 0, 1, 3, 4] rfl rfl rfl
    exact W.iret (v := (laX glo xc xr)) hx hb hr (fun t9 ht9 hW9 => ⟨⟨(laX glo xc xr), (), rfl, rfl, by rw [ht9]; exact hP, hD⟩, hS.F ht9⟩) hS.2.2 dX8_cellNumber_77
  · refine lv_tableIn (tgt := 78) hx hb dX8_cellNumber_1 (by decide) (by decide) rfl (by decide) ?_
    refine lv_aload_n hx hb dX8_cellNumber_78 rfl (lv_at hl 0 rfl) ?_
    refine va_get (D := D) (ci := 8) (v := .ref w) (C := RX8) (T := TX8) (N := 10) hx hb hts hiX8 hown hK hP 0 rfl rfl 0 (by decide) (hts (.fieldLink RX8 12 "LedgeLeaps" "world" "LLedgeLeaps$World;") (List.mem_of_getElem? (i := 1) rfl)) (fun _ h9 => h9) rfl dX8_cellNumber_79 ?_
    refine lv_iload_n hx hb dX8_cellNumber_82 rfl (lv_at hl 1 rfl) ?_
    refine lv_iload_n hx hb dX8_cellNumber_83 rfl (lv_at hl 2 rfl) ?_
    refine lv_iconst (v := 1) hx hb dX8_cellNumber_84 (by decide) ?_
    refine cV_i CF hK hN hA hS (cut_of 5 [3, 4, 0, 1, 2] hP hD rfl rfl rfl) (m_greatestRunUp l D cI cZ cW cJ A (oX8 xo w hi sn tx f mm re ro (bI mk) (bI rk) :: oX2 mm mro mfi mle (nI sz) mlo :: aI cI mlo 200 glo :: X) w wb ws wc wr wl ww wf wbl xc xr 1) (cwV 3 hts gX8_cellNumber_X7_greatestRunUp rfl rfl rfl (by decide +kernel) ⟨Nat.le_of_ble_eq_true rfl, Nat.le_of_ble_eq_true rfl⟩) (As := [.int xc, .int xr, .int 1]) (rest := []) (ci := 7) (q0 := 0) rfl rfl rfl hl.1 rfl (Nat.le_of_ble_eq_true rfl) dX8_cellNumber_85 ⟨Nat.le_of_ble_eq_true rfl, Nat.le_of_ble_eq_true rfl⟩ (fun r_85 _ H locs hq hP hD hS => ?_)
    have hq : r_85 = grB (blkX wbl) xc xr 1 := hq
    subst hq
    have hP : va_P D vwCl (oX8 xo w hi sn tx f mm re ro (bI mk) (bI rk) :: oX2 mm mro mfi mle (nI sz) mlo :: aI cI mlo 200 glo :: oX7 w wb ws wc wr wl ww wf :: aI cI wb 10 wbl :: X) H := pm_P hP 5 [2, 3, 4, 0, 1] rfl
    have hD : va_D A (oX8 xo w hi sn tx f mm re ro (bI mk) (bI rk) :: oX2 mm mro mfi mle (nI sz) mlo :: aI cI mlo 200 glo :: oX7 w wb ws wc wr wl ww wf :: aI cI wb 10 wbl :: X) := pm_D hD 5 [2, 3, 4, 0, 1] rfl rfl rfl
    exact W.iret (v := (grB (blkX wbl) xc xr 1)) hx hb hr (fun t9 ht9 hW9 => ⟨⟨(grB (blkX wbl) xc xr 1), (), rfl, rfl, by rw [ht9]; exact hP, hD⟩, hS.F ht9⟩) hS.2.2 dX8_cellNumber_88
  · refine lv_tableOut (tgt := 89) hx hb dX8_cellNumber_1 (by decide) (by decide) ?_
    refine lv_aload_n hx hb dX8_cellNumber_89 rfl (lv_at hl 0 rfl) ?_
    refine va_get (D := D) (ci := 8) (v := .ref w) (C := RX8) (T := TX8) (N := 10) hx hb hts hiX8 hown hK hP 0 rfl rfl 0 (by decide) (hts (.fieldLink RX8 12 "LedgeLeaps" "world" "LLedgeLeaps$World;") (List.mem_of_getElem? (i := 1) rfl)) (fun _ h9 => h9) rfl dX8_cellNumber_90 ?_
    refine lv_iload_n hx hb dX8_cellNumber_93 rfl (lv_at hl 1 rfl) ?_
    refine lv_iload_n hx hb dX8_cellNumber_94 rfl (lv_at hl 2 rfl) ?_
    refine lv_iconst (v := (-1)) hx hb dX8_cellNumber_95 (by decide) ?_
    refine cV_i CF hK hN hA hS (cut_of 5 [3, 4, 0, 1, 2] hP hD rfl rfl rfl) (m_greatestRunUp l D cI cZ cW cJ A (oX8 xo w hi sn tx f mm re ro (bI mk) (bI rk) :: oX2 mm mro mfi mle (nI sz) mlo :: aI cI mlo 200 glo :: X) w wb ws wc wr wl ww wf wbl xc xr (-1)) (cwV 3 hts gX8_cellNumber_X7_greatestRunUp rfl rfl rfl (by decide +kernel) ⟨Nat.le_of_ble_eq_true rfl, Nat.le_of_ble_eq_true rfl⟩) (As := [.int xc, .int xr, .int (-1)]) (rest := []) (ci := 7) (q0 := 0) rfl rfl rfl hl.1 rfl (Nat.le_of_ble_eq_true rfl) dX8_cellNumber_96 ⟨Nat.le_of_ble_eq_true rfl, Nat.le_of_ble_eq_true rfl⟩ (fun r_96 _ H locs hq hP hD hS => ?_)
    have hq : r_96 = grB (blkX wbl) xc xr (-1) := hq
    subst hq
    have hP : va_P D vwCl (oX8 xo w hi sn tx f mm re ro (bI mk) (bI rk) :: oX2 mm mro mfi mle (nI sz) mlo :: aI cI mlo 200 glo :: oX7 w wb ws wc wr wl ww wf :: aI cI wb 10 wbl :: X) H := pm_P hP 5 [2, 3, 4, 0, 1] rfl
    have hD : va_D A (oX8 xo w hi sn tx f mm re ro (bI mk) (bI rk) :: oX2 mm mro mfi mle (nI sz) mlo :: aI cI mlo 200 glo :: oX7 w wb ws wc wr wl ww wf :: aI cI wb 10 wbl :: X) := pm_D hD 5 [2, 3, 4, 0, 1] rfl rfl rfl
    exact W.iret (v := (grB (blkX wbl) xc xr (-1))) hx hb hr (fun t9 ht9 hW9 => ⟨⟨(grB (blkX wbl) xc xr (-1)), (), rfl, rfl, by rw [ht9]; exact hP, hD⟩, hS.F ht9⟩) hS.2.2 dX8_cellNumber_99
set_option maxHeartbeats 4000000 in
set_option maxRecDepth 100000 in
theorem m_ledgeNumber (l : Launch) (D : va_G) (cI cZ cW cJ : ClassId) (A : Nat → Prop) (X : va_W) (xo w hi sn tx f mm re ro : Nat) (mk rk : Bool) (mro mfi mle mlo : Nat) (gro gfi gle glo : Nat → Int32) (sz : Nat) (rl rf : Nat) (rs : Int32) (glr : Nat → Int32) (al ak : Nat) (hsz : sz ≤ 100) (hal : al < sz) (hak : ak < 6) (hrs : 3 ≤ ak → rs = nI sz) : Met l yX8_ledgeNumber wsX8_ledgeNumber ({ frames := 4, cells := 0, slots := 0, locals := 91 }) (va_Pc [.ref xo, .int (nI al), .int (nI ak)] (wd D (tyL cI cZ cW cJ) A (oX8 xo w hi sn tx f mm re ro (bI mk) (bI rk) :: oX2 mm mro mfi mle (nI sz) mlo :: aI cI mro 100 gro :: aI cI mfi 100 gfi :: aI cI mle 100 gle :: aI cI mlo 200 glo :: oX4 re rs rl rf :: aI cI rl 10000 glr :: X))) (va_Qi (fun (r : Int32) (u : Unit) => r = ledgeF gro gfi gle glr sz al ak) (fun (u : Unit) t => wq D A (oX8 xo w hi sn tx f mm re ro (bI mk) (bI rk) :: oX2 mm mro mfi mle (nI sz) mlo :: aI cI mro 100 gro :: aI cI mfi 100 gfi :: aI cI mle 100 gle :: aI cI mlo 200 glo :: oX4 re rs rl rf :: aI cI rl 10000 glr :: X) t) A) 0 0 A := by
  refine Met.ofW (cc := cX8_ledgeNumber) (maxL := 3) (ret := (some .int)) (by decide) rfl ?_
  intro p e s m args below meth c s₁ B hml hv
  obtain ⟨rfl, hsz9, hP, hK, hD, hN⟩ := hv
  have hx := B.exec
  have hb := B.bytes
  have hr := B.returns
  have hts := atoms_spec (ws := wsX8_ledgeNumber) B.pre
  have hown : s.vm.findClass RX8 = some m.cls := findClass_of_methodNamed B.named
  have hlocks := B.notSynchronized
  have CF : CallFix p m c cX8_ledgeNumber 3 s _ wsX8_ledgeNumber RX8 := ⟨hx, hb, hml, hown, hts⟩
  have hA : ∀ q : Nat, s.heap.size ≤ q → A q := hsz9
  have hS : va_S A s.heap s.heap [] := va_S.rf
  have hiX2 : ∀ w ∈ u_ws RX2 TX2 5, w ∈ wsX8_ledgeNumber := fun _ h => List.mem_cons_of_mem _ (List.mem_append_left _ (List.mem_append_right _ (h)))
  have hiX8 : ∀ w ∈ u_ws RX8 TX8 10, w ∈ wsX8_ledgeNumber := fun _ h => List.mem_cons_of_mem _ (List.mem_append_left _ (List.mem_append_left _ (List.mem_append_right _ (h))))
  have hl := lv_entry ([.ref xo, .int (nI al), .int (nI ak)]) (n := 3) (Nat.le_of_ble_eq_true rfl)
  rw [lg_entry_eq]
  generalize (lg_sl ([.ref xo, .int (nI al), .int (nI ak)]) ++ List.replicate (3 - (lg_sl ([.ref xo, .int (nI al), .int (nI ak)])).length) Slot.unset).toArray = ls at hl ⊢
  have hl : lv_has ls 3 [(0, .ref xo), (1, .int (nI al)), (2, .int (nI ak))] := hl
  show W p l e ({ frames := 4, cells := 0, slots := 0, locals := 91 } : Room) s m (([.ref xo, .int (nI al), .int (nI ak)] : List Value).toArray) below meth c s.heap [] 0 0 (MQ below (va_Qi (fun (r : Int32) (u : Unit) => r = ledgeF gro gfi gle glr sz al ak) (fun (u : Unit) t => wq D A (oX8 xo w hi sn tx f mm re ro (bI mk) (bI rk) :: oX2 mm mro mfi mle (nI sz) mlo :: aI cI mro 100 gro :: aI cI mfi 100 gfi :: aI cI mle 100 gle :: aI cI mlo 200 glo :: oX4 re rs rl rf :: aI cI rl 10000 glr :: X) t) A) (([.ref xo, .int (nI al), .int (nI ak)] : List Value).toArray) s 0 0 A) (F0 m 0 ls [])
  refine lv_iload_n hx hb dX8_ledgeNumber_0 rfl (lv_at hl 2 rfl) ?_
  rcases (show ak = 0 ∨ ak = 1 ∨ ak = 2 ∨ ak = 3 ∨ ak = 4 ∨ ak = 5 by omega) with rfl | rfl | rfl | rfl | rfl | rfl
  · refine lv_tableIn (tgt := 36) hx hb dX8_ledgeNumber_1 (by decide) (by decide) rfl (by decide) ?_
    refine lv_aload_n hx hb dX8_ledgeNumber_36 rfl (lv_at hl 0 rfl) ?_
    refine va_get (D := D) (ci := 8) (v := .ref mm) (C := RX8) (T := TX8) (N := 10) hx hb hts hiX8 hown hK hP 0 rfl rfl 5 (by decide) (hts (.fieldLink RX8 47 "LedgeLeaps" "map" "LLedgeLeaps$LedgeMap;") (List.mem_of_getElem? (i := 1) rfl)) (fun _ h9 => h9) rfl dX8_ledgeNumber_37 ?_
    refine va_get (D := D) (ci := 2) (v := .ref mro) (C := RX2) (T := TX2) (N := 5) hx hb hts hiX2 hown hK hP 1 rfl rfl 0 (by decide) (hts (.fieldLink RX8 355 "LedgeLeaps$LedgeMap" "rows" "[I") (List.mem_of_getElem? (i := 2) rfl)) (fun _ h9 => h9) rfl dX8_ledgeNumber_40 ?_
    refine lv_iload_n hx hb dX8_ledgeNumber_43 rfl (lv_at hl 1 rfl) ?_
    refine cS_i CF hK hN hA hS (cut_of 8 [2, 0, 1, 3, 4, 5, 6, 7] hP hD rfl rfl rfl) (m_at l D cI cZ cW cJ A (oX8 xo w hi sn tx f mm re ro (bI mk) (bI rk) :: oX2 mm mro mfi mle (nI sz) mlo :: aI cI mfi 100 gfi :: aI cI mle 100 gle :: aI cI mlo 200 glo :: oX4 re rs rl rf :: aI cI rl 10000 glr :: X) mro 100 gro (nI al) (by decide)) (va_cwS 2 hts gX8_ledgeNumber_X8_at rfl rfl rfl (by decide +kernel) ⟨Nat.le_of_ble_eq_true rfl, Nat.le_of_ble_eq_true rfl⟩) (As := [.ref mro, .int (nI al)]) (rest := []) rfl hl.1 rfl (Nat.le_of_ble_eq_true rfl) dX8_ledgeNumber_44 ⟨Nat.le_of_ble_eq_true rfl, Nat.le_of_ble_eq_true rfl⟩ (fun r_44 _ H locs hq hP hD hS => ?_)
    have hq : r_44 = atX 100 gro (nI al) := hq
    subst hq
    have hP : va_P D vwCl (oX8 xo w hi sn tx f mm re ro (bI mk) (bI rk) :: oX2 mm mro mfi mle (nI sz) mlo :: aI cI mro 100 gro :: aI cI mfi 100 gfi :: aI cI mle 100 gle :: aI cI mlo 200 glo :: oX4 re rs rl rf :: aI cI rl 10000 glr :: X) H := pm_P hP 8 [1, 2, 0, 3, 4, 5, 6, 7] rfl
    have hD : va_D A (oX8 xo w hi sn tx f mm re ro (bI mk) (bI rk) :: oX2 mm mro mfi mle (nI sz) mlo :: aI cI mro 100 gro :: aI cI mfi 100 gfi :: aI cI mle 100 gle :: aI cI mlo 200 glo :: oX4 re rs rl rf :: aI cI rl 10000 glr :: X) := pm_D hD 8 [1, 2, 0, 3, 4, 5, 6, 7] rfl rfl rfl
    refine top_i (y := (gro al)) (at_nI (by omega) (by decide)) ?_
    exact W.iret (v := (gro al)) hx hb hr (fun t9 ht9 hW9 => ⟨⟨(gro al), (), rfl, rfl, by rw [ht9]; exact hP, hD⟩, hS.F ht9⟩) hS.2.2 dX8_ledgeNumber_47
  · refine lv_tableIn (tgt := 48) hx hb dX8_ledgeNumber_1 (by decide) (by decide) rfl (by decide) ?_
    refine lv_aload_n hx hb dX8_ledgeNumber_48 rfl (lv_at hl 0 rfl) ?_
    refine va_get (D := D) (ci := 8) (v := .ref mm) (C := RX8) (T := TX8) (N := 10) hx hb hts hiX8 hown hK hP 0 rfl rfl 5 (by decide) (hts (.fieldLink RX8 47 "LedgeLeaps" "map" "LLedgeLeaps$LedgeMap;") (List.mem_of_getElem? (i := 1) rfl)) (fun _ h9 => h9) rfl dX8_ledgeNumber_49 ?_
    refine va_get (D := D) (ci := 2) (v := .ref mfi) (C := RX2) (T := TX2) (N := 5) hx hb hts hiX2 hown hK hP 1 rfl rfl 1 (by decide) (hts (.fieldLink RX8 358 "LedgeLeaps$LedgeMap" "firstColumns" "[I") (List.mem_of_getElem? (i := 3) rfl)) (fun _ h9 => h9) rfl dX8_ledgeNumber_52 ?_
    refine lv_iload_n hx hb dX8_ledgeNumber_55 rfl (lv_at hl 1 rfl) ?_
    refine cS_i CF hK hN hA hS (cut_of 8 [3, 0, 1, 2, 4, 5, 6, 7] hP hD rfl rfl rfl) (m_at l D cI cZ cW cJ A (oX8 xo w hi sn tx f mm re ro (bI mk) (bI rk) :: oX2 mm mro mfi mle (nI sz) mlo :: aI cI mro 100 gro :: aI cI mle 100 gle :: aI cI mlo 200 glo :: oX4 re rs rl rf :: aI cI rl 10000 glr :: X) mfi 100 gfi (nI al) (by decide)) (va_cwS 2 hts gX8_ledgeNumber_X8_at rfl rfl rfl (by decide +kernel) ⟨Nat.le_of_ble_eq_true rfl, Nat.le_of_ble_eq_true rfl⟩) (As := [.ref mfi, .int (nI al)]) (rest := []) rfl hl.1 rfl (Nat.le_of_ble_eq_true rfl) dX8_ledgeNumber_56 ⟨Nat.le_of_ble_eq_true rfl, Nat.le_of_ble_eq_true rfl⟩ (fun r_56 _ H locs hq hP hD hS => ?_)
    have hq : r_56 = atX 100 gfi (nI al) := hq
    subst hq
    have hP : va_P D vwCl (oX8 xo w hi sn tx f mm re ro (bI mk) (bI rk) :: oX2 mm mro mfi mle (nI sz) mlo :: aI cI mro 100 gro :: aI cI mfi 100 gfi :: aI cI mle 100 gle :: aI cI mlo 200 glo :: oX4 re rs rl rf :: aI cI rl 10000 glr :: X) H := pm_P hP 8 [1, 2, 3, 0, 4, 5, 6, 7] rfl
    have hD : va_D A (oX8 xo w hi sn tx f mm re ro (bI mk) (bI rk) :: oX2 mm mro mfi mle (nI sz) mlo :: aI cI mro 100 gro :: aI cI mfi 100 gfi :: aI cI mle 100 gle :: aI cI mlo 200 glo :: oX4 re rs rl rf :: aI cI rl 10000 glr :: X) := pm_D hD 8 [1, 2, 3, 0, 4, 5, 6, 7] rfl rfl rfl
    refine top_i (y := (gfi al)) (at_nI (by omega) (by decide)) ?_
    exact W.iret (v := (gfi al)) hx hb hr (fun t9 ht9 hW9 => ⟨⟨(gfi al), (), rfl, rfl, by rw [ht9]; exact hP, hD⟩, hS.F ht9⟩) hS.2.2 dX8_ledgeNumber_59
  · refine lv_tableIn (tgt := 60) hx hb dX8_ledgeNumber_1 (by decide) (by decide) rfl (by decide) ?_
    refine lv_aload_n hx hb dX8_ledgeNumber_60 rfl (lv_at hl 0 rfl) ?_
    refine va_get (D := D) (ci := 8) (v := .ref mm) (C := RX8) (T := TX8) (N := 10) hx hb hts hiX8 hown hK hP 0 rfl rfl 5 (by decide) (hts (.fieldLink RX8 47 "LedgeLeaps" "map" "LLedgeLeaps$LedgeMap;") (List.mem_of_getElem? (i := 1) rfl)) (fun _ h9 => h9) rfl dX8_ledgeNumber_61 ?_
    refine va_get (D := D) (ci := 2) (v := .ref mle) (C := RX2) (T := TX2) (N := 5) hx hb hts hiX2 hown hK hP 1 rfl rfl 2 (by decide) (hts (.fieldLink RX8 361 "LedgeLeaps$LedgeMap" "lengths" "[I") (List.mem_of_getElem? (i := 4) rfl)) (fun _ h9 => h9) rfl dX8_ledgeNumber_64 ?_
    refine lv_iload_n hx hb dX8_ledgeNumber_67 rfl (lv_at hl 1 rfl) ?_
    refine cS_i CF hK hN hA hS (cut_of 8 [4, 0, 1, 2, 3, 5, 6, 7] hP hD rfl rfl rfl) (m_at l D cI cZ cW cJ A (oX8 xo w hi sn tx f mm re ro (bI mk) (bI rk) :: oX2 mm mro mfi mle (nI sz) mlo :: aI cI mro 100 gro :: aI cI mfi 100 gfi :: aI cI mlo 200 glo :: oX4 re rs rl rf :: aI cI rl 10000 glr :: X) mle 100 gle (nI al) (by decide)) (va_cwS 2 hts gX8_ledgeNumber_X8_at rfl rfl rfl (by decide +kernel) ⟨Nat.le_of_ble_eq_true rfl, Nat.le_of_ble_eq_true rfl⟩) (As := [.ref mle, .int (nI al)]) (rest := []) rfl hl.1 rfl (Nat.le_of_ble_eq_true rfl) dX8_ledgeNumber_68 ⟨Nat.le_of_ble_eq_true rfl, Nat.le_of_ble_eq_true rfl⟩ (fun r_68 _ H locs hq hP hD hS => ?_)
    have hq : r_68 = atX 100 gle (nI al) := hq
    subst hq
    have hP : va_P D vwCl (oX8 xo w hi sn tx f mm re ro (bI mk) (bI rk) :: oX2 mm mro mfi mle (nI sz) mlo :: aI cI mro 100 gro :: aI cI mfi 100 gfi :: aI cI mle 100 gle :: aI cI mlo 200 glo :: oX4 re rs rl rf :: aI cI rl 10000 glr :: X) H := pm_P hP 8 [1, 2, 3, 4, 0, 5, 6, 7] rfl
    have hD : va_D A (oX8 xo w hi sn tx f mm re ro (bI mk) (bI rk) :: oX2 mm mro mfi mle (nI sz) mlo :: aI cI mro 100 gro :: aI cI mfi 100 gfi :: aI cI mle 100 gle :: aI cI mlo 200 glo :: oX4 re rs rl rf :: aI cI rl 10000 glr :: X) := pm_D hD 8 [1, 2, 3, 4, 0, 5, 6, 7] rfl rfl rfl
    refine top_i (y := (gle al)) (at_nI (by omega) (by decide)) ?_
    exact W.iret (v := (gle al)) hx hb hr (fun t9 ht9 hW9 => ⟨⟨(gle al), (), rfl, rfl, by rw [ht9]; exact hP, hD⟩, hS.F ht9⟩) hS.2.2 dX8_ledgeNumber_71
  · refine lv_tableIn (tgt := 72) hx hb dX8_ledgeNumber_1 (by decide) (by decide) rfl (by decide) ?_
    obtain rfl := hrs (by decide)
    refine lv_aload_n hx hb dX8_ledgeNumber_72 rfl (lv_at hl 0 rfl) ?_
    refine va_get (D := D) (ci := 8) (v := .ref re) (C := RX8) (T := TX8) (N := 10) hx hb hts hiX8 hown hK hP 0 rfl rfl 6 (by decide) (hts (.fieldLink RX8 54 "LedgeLeaps" "reaches" "LLedgeLeaps$Reaches;") (List.mem_of_getElem? (i := 5) rfl)) (fun _ h9 => h9) rfl dX8_ledgeNumber_73 ?_
    refine lv_iload_n hx hb dX8_ledgeNumber_76 rfl (lv_at hl 1 rfl) ?_
    refine lv_iconst (v := 3) hx hb dX8_ledgeNumber_77 (by decide) ?_
    refine cV_i CF hK hN hA hS (cut_of 8 [6, 7, 0, 1, 2, 3, 4, 5] hP hD rfl rfl rfl) (m_othersFrom l D cI cZ cW cJ A (oX8 xo w hi sn tx f mm re ro (bI mk) (bI rk) :: oX2 mm mro mfi mle (nI sz) mlo :: aI cI mro 100 gro :: aI cI mfi 100 gfi :: aI cI mle 100 gle :: aI cI mlo 200 glo :: X) re rl rf glr sz al 3 hsz (by omega)) (cwV 2 hts gX8_ledgeNumber_X4_othersFrom rfl rfl rfl (by decide +kernel) ⟨Nat.le_of_ble_eq_true rfl, Nat.le_of_ble_eq_true rfl⟩) (As := [.int (nI al), .int 3]) (rest := []) (ci := 4) (q0 := 0) rfl rfl rfl hl.1 rfl (Nat.le_of_ble_eq_true rfl) dX8_ledgeNumber_78 ⟨Nat.le_of_ble_eq_true rfl, Nat.le_of_ble_eq_true rfl⟩ (fun r_78 _ H locs hq hP hD hS => ?_)
    have hq : r_78 = nI (cntB (fun to => !decide (to = al) && comeF glr al to 3) sz) := hq
    subst hq
    have hP : va_P D vwCl (oX8 xo w hi sn tx f mm re ro (bI mk) (bI rk) :: oX2 mm mro mfi mle (nI sz) mlo :: aI cI mro 100 gro :: aI cI mfi 100 gfi :: aI cI mle 100 gle :: aI cI mlo 200 glo :: oX4 re (nI sz) rl rf :: aI cI rl 10000 glr :: X) H := pm_P hP 8 [2, 3, 4, 5, 6, 7, 0, 1] rfl
    have hD : va_D A (oX8 xo w hi sn tx f mm re ro (bI mk) (bI rk) :: oX2 mm mro mfi mle (nI sz) mlo :: aI cI mro 100 gro :: aI cI mfi 100 gfi :: aI cI mle 100 gle :: aI cI mlo 200 glo :: oX4 re (nI sz) rl rf :: aI cI rl 10000 glr :: X) := pm_D hD 8 [2, 3, 4, 5, 6, 7, 0, 1] rfl rfl rfl
    exact W.iret (v := (nI (cntB (fun to => !decide (to = al) && comeF glr al to 3) sz))) hx hb hr (fun t9 ht9 hW9 => ⟨⟨(nI (cntB (fun to => !decide (to = al) && comeF glr al to 3) sz)), (), rfl, rfl, by rw [ht9]; exact hP, hD⟩, hS.F ht9⟩) hS.2.2 dX8_ledgeNumber_81
  · refine lv_tableIn (tgt := 82) hx hb dX8_ledgeNumber_1 (by decide) (by decide) rfl (by decide) ?_
    obtain rfl := hrs (by decide)
    refine lv_aload_n hx hb dX8_ledgeNumber_82 rfl (lv_at hl 0 rfl) ?_
    refine va_get (D := D) (ci := 8) (v := .ref re) (C := RX8) (T := TX8) (N := 10) hx hb hts hiX8 hown hK hP 0 rfl rfl 6 (by decide) (hts (.fieldLink RX8 54 "LedgeLeaps" "reaches" "LLedgeLeaps$Reaches;") (List.mem_of_getElem? (i := 5) rfl)) (fun _ h9 => h9) rfl dX8_ledgeNumber_83 ?_
    refine lv_iload_n hx hb dX8_ledgeNumber_86 rfl (lv_at hl 1 rfl) ?_
    refine lv_iconst (v := 0) hx hb dX8_ledgeNumber_87 (by decide) ?_
    refine cV_i CF hK hN hA hS (cut_of 8 [6, 7, 0, 1, 2, 3, 4, 5] hP hD rfl rfl rfl) (m_othersFrom l D cI cZ cW cJ A (oX8 xo w hi sn tx f mm re ro (bI mk) (bI rk) :: oX2 mm mro mfi mle (nI sz) mlo :: aI cI mro 100 gro :: aI cI mfi 100 gfi :: aI cI mle 100 gle :: aI cI mlo 200 glo :: X) re rl rf glr sz al 0 hsz (by omega)) (cwV 2 hts gX8_ledgeNumber_X4_othersFrom rfl rfl rfl (by decide +kernel) ⟨Nat.le_of_ble_eq_true rfl, Nat.le_of_ble_eq_true rfl⟩) (As := [.int (nI al), .int 0]) (rest := []) (ci := 4) (q0 := 0) rfl rfl rfl hl.1 rfl (Nat.le_of_ble_eq_true rfl) dX8_ledgeNumber_88 ⟨Nat.le_of_ble_eq_true rfl, Nat.le_of_ble_eq_true rfl⟩ (fun r_88 _ H locs hq hP hD hS => ?_)
    have hq : r_88 = nI (cntB (fun to => !decide (to = al) && comeF glr al to 0) sz) := hq
    subst hq
    have hP : va_P D vwCl (oX8 xo w hi sn tx f mm re ro (bI mk) (bI rk) :: oX2 mm mro mfi mle (nI sz) mlo :: aI cI mro 100 gro :: aI cI mfi 100 gfi :: aI cI mle 100 gle :: aI cI mlo 200 glo :: oX4 re (nI sz) rl rf :: aI cI rl 10000 glr :: X) H := pm_P hP 8 [2, 3, 4, 5, 6, 7, 0, 1] rfl
    have hD : va_D A (oX8 xo w hi sn tx f mm re ro (bI mk) (bI rk) :: oX2 mm mro mfi mle (nI sz) mlo :: aI cI mro 100 gro :: aI cI mfi 100 gfi :: aI cI mle 100 gle :: aI cI mlo 200 glo :: oX4 re (nI sz) rl rf :: aI cI rl 10000 glr :: X) := pm_D hD 8 [2, 3, 4, 5, 6, 7, 0, 1] rfl rfl rfl
    exact W.iret (v := (nI (cntB (fun to => !decide (to = al) && comeF glr al to 0) sz))) hx hb hr (fun t9 ht9 hW9 => ⟨⟨(nI (cntB (fun to => !decide (to = al) && comeF glr al to 0) sz)), (), rfl, rfl, by rw [ht9]; exact hP, hD⟩, hS.F ht9⟩) hS.2.2 dX8_ledgeNumber_91
  · refine lv_tableOut (tgt := 92) hx hb dX8_ledgeNumber_1 (by decide) (by decide) ?_
    obtain rfl := hrs (by decide)
    refine lv_aload_n hx hb dX8_ledgeNumber_92 rfl (lv_at hl 0 rfl) ?_
    refine va_get (D := D) (ci := 8) (v := .ref re) (C := RX8) (T := TX8) (N := 10) hx hb hts hiX8 hown hK hP 0 rfl rfl 6 (by decide) (hts (.fieldLink RX8 54 "LedgeLeaps" "reaches" "LLedgeLeaps$Reaches;") (List.mem_of_getElem? (i := 5) rfl)) (fun _ h9 => h9) rfl dX8_ledgeNumber_93 ?_
    refine lv_iload_n hx hb dX8_ledgeNumber_96 rfl (lv_at hl 1 rfl) ?_
    refine cV_i CF hK hN hA hS (cut_of 8 [6, 7, 0, 1, 2, 3, 4, 5] hP hD rfl rfl rfl) (m_othersTo l D cI cZ cW cJ A (oX8 xo w hi sn tx f mm re ro (bI mk) (bI rk) :: oX2 mm mro mfi mle (nI sz) mlo :: aI cI mro 100 gro :: aI cI mfi 100 gfi :: aI cI mle 100 gle :: aI cI mlo 200 glo :: X) re rl rf glr sz al hsz (by omega)) (cwV 1 hts gX8_ledgeNumber_X4_othersTo rfl rfl rfl (by decide +kernel) ⟨Nat.le_of_ble_eq_true rfl, Nat.le_of_ble_eq_true rfl⟩) (As := [.int (nI al)]) (rest := []) (ci := 4) (q0 := 0) rfl rfl rfl hl.1 rfl (Nat.le_of_ble_eq_true rfl) dX8_ledgeNumber_97 ⟨Nat.le_of_ble_eq_true rfl, Nat.le_of_ble_eq_true rfl⟩ (fun r_97 _ H locs hq hP hD hS => ?_)
    have hq : r_97 = nI (cntB (fun fr => !decide (fr = al) && comeF glr fr al 3) sz) := hq
    subst hq
    have hP : va_P D vwCl (oX8 xo w hi sn tx f mm re ro (bI mk) (bI rk) :: oX2 mm mro mfi mle (nI sz) mlo :: aI cI mro 100 gro :: aI cI mfi 100 gfi :: aI cI mle 100 gle :: aI cI mlo 200 glo :: oX4 re (nI sz) rl rf :: aI cI rl 10000 glr :: X) H := pm_P hP 8 [2, 3, 4, 5, 6, 7, 0, 1] rfl
    have hD : va_D A (oX8 xo w hi sn tx f mm re ro (bI mk) (bI rk) :: oX2 mm mro mfi mle (nI sz) mlo :: aI cI mro 100 gro :: aI cI mfi 100 gfi :: aI cI mle 100 gle :: aI cI mlo 200 glo :: oX4 re (nI sz) rl rf :: aI cI rl 10000 glr :: X) := pm_D hD 8 [2, 3, 4, 5, 6, 7, 0, 1] rfl rfl rfl
    exact W.iret (v := (nI (cntB (fun fr => !decide (fr = al) && comeF glr fr al 3) sz))) hx hb hr (fun t9 ht9 hW9 => ⟨⟨(nI (cntB (fun fr => !decide (fr = al) && comeF glr fr al 3) sz)), (), rfl, rfl, by rw [ht9]; exact hP, hD⟩, hS.F ht9⟩) hS.2.2 dX8_ledgeNumber_100
set_option maxHeartbeats 4000000 in
set_option maxRecDepth 100000 in
theorem m_countedNumber (l : Launch) (D : va_G) (cI cZ cW cJ : ClassId) (A : Nat → Prop) (X : va_W) (xo hi sn tx f mm re ro : Nat) (mk rk : Bool) (mro mfi mle mlo : Nat) (glo : Nat → Int32) (sz : Nat) (w wb ws : Nat) (wc wr wl ww wf : Int32) (wbl : Nat → Int32) (rog rsp rqu rta : Nat) (rut : Int32) (gsp : Nat → Int32) (hn : Int32) (hv : Nat) (ak : Nat) (hsz : sz ≤ 100) (hak : ak < 10) : Met l yX8_countedNumber wsX8_countedNumber ({ frames := 4, cells := 0, slots := 0, locals := 87 }) (va_Pc [.ref xo, .int (nI ak)] (wd D (tyL cI cZ cW cJ) A (oX8 xo w hi sn tx f mm re ro (bI mk) (bI rk) :: oX2 mm mro mfi mle (nI sz) mlo :: aI cI mlo 200 glo :: oX7 w wb ws wc wr wl ww wf :: aI cI wb 10 wbl :: oX5 ro rog rsp rqu rta rut :: aI cI rsp 400 gsp :: oX1 hi hn hv :: X))) (va_Qi (fun (r : Int32) (u : Unit) => r = countF wbl glo gsp sz wc wr wl ww wf hn ak) (fun (u : Unit) t => wq D A (oX8 xo w hi sn tx f mm re ro (bI mk) (bI rk) :: oX2 mm mro mfi mle (nI sz) mlo :: aI cI mlo 200 glo :: oX7 w wb ws wc wr wl ww wf :: aI cI wb 10 wbl :: oX5 ro rog rsp rqu rta rut :: aI cI rsp 400 gsp :: oX1 hi hn hv :: X) t) A) 0 0 A := by
  refine Met.ofW (cc := cX8_countedNumber) (maxL := 2) (ret := (some .int)) (by decide) rfl ?_
  intro p e s m args below meth c s₁ B hml hv
  obtain ⟨rfl, hsz9, hP, hK, hD, hN⟩ := hv
  have hx := B.exec
  have hb := B.bytes
  have hr := B.returns
  have hts := atoms_spec (ws := wsX8_countedNumber) B.pre
  have hown : s.vm.findClass RX8 = some m.cls := findClass_of_methodNamed B.named
  have hlocks := B.notSynchronized
  have CF : CallFix p m c cX8_countedNumber 2 s _ wsX8_countedNumber RX8 := ⟨hx, hb, hml, hown, hts⟩
  have hA : ∀ q : Nat, s.heap.size ≤ q → A q := hsz9
  have hS : va_S A s.heap s.heap [] := va_S.rf
  have hiX1 : ∀ w ∈ u_ws RX1 TX1 2, w ∈ wsX8_countedNumber := fun _ h => List.mem_cons_of_mem _ (List.mem_append_left _ (List.mem_append_right _ (h)))
  have hiX2 : ∀ w ∈ u_ws RX2 TX2 5, w ∈ wsX8_countedNumber := fun _ h => List.mem_cons_of_mem _ (List.mem_append_left _ (List.mem_append_left _ (List.mem_append_left _ (List.mem_append_right _ (h)))))
  have hiX7 : ∀ w ∈ u_ws RX7 TX7 7, w ∈ wsX8_countedNumber := fun _ h => List.mem_cons_of_mem _ (List.mem_append_left _ (List.mem_append_left _ (List.mem_append_right _ (h))))
  have hiX8 : ∀ w ∈ u_ws RX8 TX8 10, w ∈ wsX8_countedNumber := fun _ h => List.mem_cons_of_mem _ (List.mem_append_left _ (List.mem_append_left _ (List.mem_append_left _ (List.mem_append_left _ (List.mem_append_right _ (h))))))
  have hl := lv_entry ([.ref xo, .int (nI ak)]) (n := 2) (Nat.le_of_ble_eq_true rfl)
  rw [lg_entry_eq]
  generalize (lg_sl ([.ref xo, .int (nI ak)]) ++ List.replicate (2 - (lg_sl ([.ref xo, .int (nI ak)])).length) Slot.unset).toArray = ls at hl ⊢
  have hl : lv_has ls 2 [(0, .ref xo), (1, .int (nI ak))] := hl
  show W p l e ({ frames := 4, cells := 0, slots := 0, locals := 87 } : Room) s m (([.ref xo, .int (nI ak)] : List Value).toArray) below meth c s.heap [] 0 0 (MQ below (va_Qi (fun (r : Int32) (u : Unit) => r = countF wbl glo gsp sz wc wr wl ww wf hn ak) (fun (u : Unit) t => wq D A (oX8 xo w hi sn tx f mm re ro (bI mk) (bI rk) :: oX2 mm mro mfi mle (nI sz) mlo :: aI cI mlo 200 glo :: oX7 w wb ws wc wr wl ww wf :: aI cI wb 10 wbl :: oX5 ro rog rsp rqu rta rut :: aI cI rsp 400 gsp :: oX1 hi hn hv :: X) t) A) (([.ref xo, .int (nI ak)] : List Value).toArray) s 0 0 A) (F0 m 0 ls [])
  refine lv_iload_n hx hb dX8_countedNumber_0 rfl (lv_at hl 1 rfl) ?_
  rcases (show ak = 0 ∨ ak = 1 ∨ ak = 2 ∨ ak = 3 ∨ ak = 4 ∨ ak = 5 ∨ ak = 6 ∨ ak = 7 ∨ ak = 8 ∨ ak = 9 by omega) with rfl | rfl | rfl | rfl | rfl | rfl | rfl | rfl | rfl | rfl
  · refine lv_tableIn (tgt := 52) hx hb dX8_countedNumber_1 (by decide) (by decide) rfl (by decide) ?_
    refine lv_aload_n hx hb dX8_countedNumber_52 rfl (lv_at hl 0 rfl) ?_
    refine va_get (D := D) (ci := 8) (v := .ref w) (C := RX8) (T := TX8) (N := 10) hx hb hts hiX8 hown hK hP 0 rfl rfl 0 (by decide) (hts (.fieldLink RX8 12 "LedgeLeaps" "world" "LLedgeLeaps$World;") (List.mem_of_getElem? (i := 1) rfl)) (fun _ h9 => h9) rfl dX8_countedNumber_53 ?_
    refine cV_i CF hK hN hA hS (cut_of 8 [3, 4, 0, 1, 2, 5, 6, 7] hP hD rfl rfl rfl) (m_blockCount l D cI cZ cW cJ A (oX8 xo w hi sn tx f mm re ro (bI mk) (bI rk) :: oX2 mm mro mfi mle (nI sz) mlo :: aI cI mlo 200 glo :: oX5 ro rog rsp rqu rta rut :: aI cI rsp 400 gsp :: oX1 hi hn hv :: X) w wb ws wc wr wl ww wf wbl) (cwV 0 hts gX8_countedNumber_X7_blockCount rfl rfl rfl (by decide +kernel) ⟨Nat.le_of_ble_eq_true rfl, Nat.le_of_ble_eq_true rfl⟩) (As := []) (rest := []) (ci := 7) (q0 := 0) rfl rfl rfl hl.1 rfl (Nat.le_of_ble_eq_true rfl) dX8_countedNumber_56 ⟨Nat.le_of_ble_eq_true rfl, Nat.le_of_ble_eq_true rfl⟩ (fun r_56 _ H locs hq hP hD hS => ?_)
    have hq : r_56 = 0 + bcX (wbl 0) + bcX (wbl 1) + bcX (wbl 2) + bcX (wbl 3) + bcX (wbl 4) + bcX (wbl 5) + bcX (wbl 6) + bcX (wbl 7) + bcX (wbl 8) + bcX (wbl 9) := hq
    subst hq
    have hP : va_P D vwCl (oX8 xo w hi sn tx f mm re ro (bI mk) (bI rk) :: oX2 mm mro mfi mle (nI sz) mlo :: aI cI mlo 200 glo :: oX7 w wb ws wc wr wl ww wf :: aI cI wb 10 wbl :: oX5 ro rog rsp rqu rta rut :: aI cI rsp 400 gsp :: oX1 hi hn hv :: X) H := pm_P hP 8 [2, 3, 4, 0, 1, 5, 6, 7] rfl
    have hD : va_D A (oX8 xo w hi sn tx f mm re ro (bI mk) (bI rk) :: oX2 mm mro mfi mle (nI sz) mlo :: aI cI mlo 200 glo :: oX7 w wb ws wc wr wl ww wf :: aI cI wb 10 wbl :: oX5 ro rog rsp rqu rta rut :: aI cI rsp 400 gsp :: oX1 hi hn hv :: X) := pm_D hD 8 [2, 3, 4, 0, 1, 5, 6, 7] rfl rfl rfl
    exact W.iret (v := (0 + bcX (wbl 0) + bcX (wbl 1) + bcX (wbl 2) + bcX (wbl 3) + bcX (wbl 4) + bcX (wbl 5) + bcX (wbl 6) + bcX (wbl 7) + bcX (wbl 8) + bcX (wbl 9))) hx hb hr (fun t9 ht9 hW9 => ⟨⟨(0 + bcX (wbl 0) + bcX (wbl 1) + bcX (wbl 2) + bcX (wbl 3) + bcX (wbl 4) + bcX (wbl 5) + bcX (wbl 6) + bcX (wbl 7) + bcX (wbl 8) + bcX (wbl 9)), (), rfl, rfl, by rw [ht9]; exact hP, hD⟩, hS.F ht9⟩) hS.2.2 dX8_countedNumber_59
  · refine lv_tableIn (tgt := 60) hx hb dX8_countedNumber_1 (by decide) (by decide) rfl (by decide) ?_
    refine lv_aload_n hx hb dX8_countedNumber_60 rfl (lv_at hl 0 rfl) ?_
    refine va_get (D := D) (ci := 8) (v := .ref mm) (C := RX8) (T := TX8) (N := 10) hx hb hts hiX8 hown hK hP 0 rfl rfl 5 (by decide) (hts (.fieldLink RX8 47 "LedgeLeaps" "map" "LLedgeLeaps$LedgeMap;") (List.mem_of_getElem? (i := 2) rfl)) (fun _ h9 => h9) rfl dX8_countedNumber_61 ?_
    refine va_get (D := D) (ci := 2) (v := .int (nI sz)) (C := RX2) (T := TX2) (N := 5) hx hb hts hiX2 hown hK hP 1 rfl rfl 3 (by decide) (hts (.fieldLink RX8 370 "LedgeLeaps$LedgeMap" "size" "I") (List.mem_of_getElem? (i := 3) rfl)) (fun _ h9 => h9) rfl dX8_countedNumber_64 ?_
    exact W.iret (v := (nI sz)) hx hb hr (fun t9 ht9 hW9 => ⟨⟨(nI sz), (), rfl, rfl, by rw [ht9]; exact hP, hD⟩, hS.F ht9⟩) hS.2.2 dX8_countedNumber_67
  · refine lv_tableIn (tgt := 68) hx hb dX8_countedNumber_1 (by decide) (by decide) rfl (by decide) ?_
    refine lv_aload_n hx hb dX8_countedNumber_68 rfl (lv_at hl 0 rfl) ?_
    refine va_get (D := D) (ci := 8) (v := .ref w) (C := RX8) (T := TX8) (N := 10) hx hb hts hiX8 hown hK hP 0 rfl rfl 0 (by decide) (hts (.fieldLink RX8 12 "LedgeLeaps" "world" "LLedgeLeaps$World;") (List.mem_of_getElem? (i := 1) rfl)) (fun _ h9 => h9) rfl dX8_countedNumber_69 ?_
    refine va_get (D := D) (ci := 7) (v := .int wc) (C := RX7) (T := TX7) (N := 7) hx hb hts hiX7 hown hK hP 3 rfl rfl 2 (by decide) (hts (.fieldLink RX8 137 "LedgeLeaps$World" "column" "I") (List.mem_of_getElem? (i := 4) rfl)) (fun _ h9 => h9) rfl dX8_countedNumber_72 ?_
    exact W.iret (v := wc) hx hb hr (fun t9 ht9 hW9 => ⟨⟨wc, (), rfl, rfl, by rw [ht9]; exact hP, hD⟩, hS.F ht9⟩) hS.2.2 dX8_countedNumber_75
  · refine lv_tableIn (tgt := 76) hx hb dX8_countedNumber_1 (by decide) (by decide) rfl (by decide) ?_
    refine lv_aload_n hx hb dX8_countedNumber_76 rfl (lv_at hl 0 rfl) ?_
    refine va_get (D := D) (ci := 8) (v := .ref w) (C := RX8) (T := TX8) (N := 10) hx hb hts hiX8 hown hK hP 0 rfl rfl 0 (by decide) (hts (.fieldLink RX8 12 "LedgeLeaps" "world" "LLedgeLeaps$World;") (List.mem_of_getElem? (i := 1) rfl)) (fun _ h9 => h9) rfl dX8_countedNumber_77 ?_
    refine va_get (D := D) (ci := 7) (v := .int wr) (C := RX7) (T := TX7) (N := 7) hx hb hts hiX7 hown hK hP 3 rfl rfl 3 (by decide) (hts (.fieldLink RX8 140 "LedgeLeaps$World" "row" "I") (List.mem_of_getElem? (i := 5) rfl)) (fun _ h9 => h9) rfl dX8_countedNumber_80 ?_
    exact W.iret (v := wr) hx hb hr (fun t9 ht9 hW9 => ⟨⟨wr, (), rfl, rfl, by rw [ht9]; exact hP, hD⟩, hS.F ht9⟩) hS.2.2 dX8_countedNumber_83
  · refine lv_tableIn (tgt := 84) hx hb dX8_countedNumber_1 (by decide) (by decide) rfl (by decide) ?_
    refine lv_aload_n hx hb dX8_countedNumber_84 rfl (lv_at hl 0 rfl) ?_
    refine cV_i CF hK hN hA hS (cut_of 8 [0, 1, 2, 3, 4, 5, 6, 7] hP hD rfl rfl rfl) (m_runnersLedge l D cI cZ cW cJ A (aI cI wb 10 wbl :: oX5 ro rog rsp rqu rta rut :: aI cI rsp 400 gsp :: oX1 hi hn hv :: X) xo hi sn tx f mm re ro mk rk mro mfi mle mlo glo sz w wb ws wc wr wl ww wf) (cwV 0 hts gX8_countedNumber_X8_runnersLedge rfl rfl rfl (by decide +kernel) ⟨Nat.le_of_ble_eq_true rfl, Nat.le_of_ble_eq_true rfl⟩) (As := []) (rest := []) (ci := 8) (q0 := 0) rfl rfl rfl hl.1 rfl (Nat.le_of_ble_eq_true rfl) dX8_countedNumber_85 ⟨Nat.le_of_ble_eq_true rfl, Nat.le_of_ble_eq_true rfl⟩ (fun r_85 _ H locs hq hP hD hS => ?_)
    have hq : r_85 = laX glo wc wr := hq
    subst hq
    have hP : va_P D vwCl (oX8 xo w hi sn tx f mm re ro (bI mk) (bI rk) :: oX2 mm mro mfi mle (nI sz) mlo :: aI cI mlo 200 glo :: oX7 w wb ws wc wr wl ww wf :: aI cI wb 10 wbl :: oX5 ro rog rsp rqu rta rut :: aI cI rsp 400 gsp :: oX1 hi hn hv :: X) H := pm_P hP 8 [0, 1, 2, 3, 4, 5, 6, 7] rfl
    have hD : va_D A (oX8 xo w hi sn tx f mm re ro (bI mk) (bI rk) :: oX2 mm mro mfi mle (nI sz) mlo :: aI cI mlo 200 glo :: oX7 w wb ws wc wr wl ww wf :: aI cI wb 10 wbl :: oX5 ro rog rsp rqu rta rut :: aI cI rsp 400 gsp :: oX1 hi hn hv :: X) := pm_D hD 8 [0, 1, 2, 3, 4, 5, 6, 7] rfl rfl rfl
    exact W.iret (v := (laX glo wc wr)) hx hb hr (fun t9 ht9 hW9 => ⟨⟨(laX glo wc wr), (), rfl, rfl, by rw [ht9]; exact hP, hD⟩, hS.F ht9⟩) hS.2.2 dX8_countedNumber_88
  · refine lv_tableIn (tgt := 89) hx hb dX8_countedNumber_1 (by decide) (by decide) rfl (by decide) ?_
    refine lv_aload_n hx hb dX8_countedNumber_89 rfl (lv_at hl 0 rfl) ?_
    refine va_get (D := D) (ci := 8) (v := .ref w) (C := RX8) (T := TX8) (N := 10) hx hb hts hiX8 hown hK hP 0 rfl rfl 0 (by decide) (hts (.fieldLink RX8 12 "LedgeLeaps" "world" "LLedgeLeaps$World;") (List.mem_of_getElem? (i := 1) rfl)) (fun _ h9 => h9) rfl dX8_countedNumber_90 ?_
    refine va_get (D := D) (ci := 7) (v := .int wl) (C := RX7) (T := TX7) (N := 7) hx hb hts hiX7 hown hK hP 3 rfl rfl 4 (by decide) (hts (.fieldLink RX8 335 "LedgeLeaps$World" "leaps" "I") (List.mem_of_getElem? (i := 6) rfl)) (fun _ h9 => h9) rfl dX8_countedNumber_93 ?_
    exact W.iret (v := wl) hx hb hr (fun t9 ht9 hW9 => ⟨⟨wl, (), rfl, rfl, by rw [ht9]; exact hP, hD⟩, hS.F ht9⟩) hS.2.2 dX8_countedNumber_96
  · refine lv_tableIn (tgt := 97) hx hb dX8_countedNumber_1 (by decide) (by decide) rfl (by decide) ?_
    refine lv_aload_n hx hb dX8_countedNumber_97 rfl (lv_at hl 0 rfl) ?_
    refine va_get (D := D) (ci := 8) (v := .ref w) (C := RX8) (T := TX8) (N := 10) hx hb hts hiX8 hown hK hP 0 rfl rfl 0 (by decide) (hts (.fieldLink RX8 12 "LedgeLeaps" "world" "LLedgeLeaps$World;") (List.mem_of_getElem? (i := 1) rfl)) (fun _ h9 => h9) rfl dX8_countedNumber_98 ?_
    refine va_get (D := D) (ci := 7) (v := .int ww) (C := RX7) (T := TX7) (N := 7) hx hb hts hiX7 hown hK hP 3 rfl rfl 5 (by decide) (hts (.fieldLink RX8 341 "LedgeLeaps$World" "wallLeaps" "I") (List.mem_of_getElem? (i := 7) rfl)) (fun _ h9 => h9) rfl dX8_countedNumber_101 ?_
    exact W.iret (v := ww) hx hb hr (fun t9 ht9 hW9 => ⟨⟨ww, (), rfl, rfl, by rw [ht9]; exact hP, hD⟩, hS.F ht9⟩) hS.2.2 dX8_countedNumber_104
  · refine lv_tableIn (tgt := 105) hx hb dX8_countedNumber_1 (by decide) (by decide) rfl (by decide) ?_
    refine lv_aload_n hx hb dX8_countedNumber_105 rfl (lv_at hl 0 rfl) ?_
    refine va_get (D := D) (ci := 8) (v := .ref w) (C := RX8) (T := TX8) (N := 10) hx hb hts hiX8 hown hK hP 0 rfl rfl 0 (by decide) (hts (.fieldLink RX8 12 "LedgeLeaps" "world" "LLedgeLeaps$World;") (List.mem_of_getElem? (i := 1) rfl)) (fun _ h9 => h9) rfl dX8_countedNumber_106 ?_
    refine va_get (D := D) (ci := 7) (v := .int wf) (C := RX7) (T := TX7) (N := 7) hx hb hts hiX7 hown hK hP 3 rfl rfl 6 (by decide) (hts (.fieldLink RX8 133 "LedgeLeaps$World" "refused" "I") (List.mem_of_getElem? (i := 8) rfl)) (fun _ h9 => h9) rfl dX8_countedNumber_109 ?_
    exact W.iret (v := wf) hx hb hr (fun t9 ht9 hW9 => ⟨⟨wf, (), rfl, rfl, by rw [ht9]; exact hP, hD⟩, hS.F ht9⟩) hS.2.2 dX8_countedNumber_112
  · refine lv_tableIn (tgt := 113) hx hb dX8_countedNumber_1 (by decide) (by decide) rfl (by decide) ?_
    refine lv_aload_n hx hb dX8_countedNumber_113 rfl (lv_at hl 0 rfl) ?_
    refine va_get (D := D) (ci := 8) (v := .ref mm) (C := RX8) (T := TX8) (N := 10) hx hb hts hiX8 hown hK hP 0 rfl rfl 5 (by decide) (hts (.fieldLink RX8 47 "LedgeLeaps" "map" "LLedgeLeaps$LedgeMap;") (List.mem_of_getElem? (i := 2) rfl)) (fun _ h9 => h9) rfl dX8_countedNumber_114 ?_
    refine va_get (D := D) (ci := 2) (v := .int (nI sz)) (C := RX2) (T := TX2) (N := 5) hx hb hts hiX2 hown hK hP 1 rfl rfl 3 (by decide) (hts (.fieldLink RX8 370 "LedgeLeaps$LedgeMap" "size" "I") (List.mem_of_getElem? (i := 3) rfl)) (fun _ h9 => h9) rfl dX8_countedNumber_117 ?_
    refine lv_aload_n hx hb dX8_countedNumber_120 rfl (lv_at hl 0 rfl) ?_
    refine cV_i CF hK hN hA hS (cut_of 8 [0, 1, 5, 6, 2, 3, 4, 7] hP hD rfl rfl rfl) (m_reachedLedges l D cI cZ cW cJ A (aI cI mlo 200 glo :: oX7 w wb ws wc wr wl ww wf :: aI cI wb 10 wbl :: oX1 hi hn hv :: X) xo w hi sn tx f mm re ro mk rk mro mfi mle mlo sz rog rsp rqu rta rut gsp hsz) (cwV 0 hts gX8_countedNumber_X8_reachedLedges rfl rfl rfl (by decide +kernel) ⟨Nat.le_of_ble_eq_true rfl, Nat.le_of_ble_eq_true rfl⟩) (As := []) (rest := [.int (nI sz)]) (ci := 8) (q0 := 0) rfl rfl rfl hl.1 rfl (Nat.le_of_ble_eq_true rfl) dX8_countedNumber_121 ⟨Nat.le_of_ble_eq_true rfl, Nat.le_of_ble_eq_true rfl⟩ (fun r_121 _ H locs hq hP hD hS => ?_)
    have hq : r_121 = nI (cntB (rchB gsp 3) sz) := hq
    subst hq
    have hP : va_P D vwCl (oX8 xo w hi sn tx f mm re ro (bI mk) (bI rk) :: oX2 mm mro mfi mle (nI sz) mlo :: aI cI mlo 200 glo :: oX7 w wb ws wc wr wl ww wf :: aI cI wb 10 wbl :: oX5 ro rog rsp rqu rta rut :: aI cI rsp 400 gsp :: oX1 hi hn hv :: X) H := pm_P hP 8 [0, 1, 4, 5, 6, 2, 3, 7] rfl
    have hD : va_D A (oX8 xo w hi sn tx f mm re ro (bI mk) (bI rk) :: oX2 mm mro mfi mle (nI sz) mlo :: aI cI mlo 200 glo :: oX7 w wb ws wc wr wl ww wf :: aI cI wb 10 wbl :: oX5 ro rog rsp rqu rta rut :: aI cI rsp 400 gsp :: oX1 hi hn hv :: X) := pm_D hD 8 [0, 1, 4, 5, 6, 2, 3, 7] rfl rfl rfl
    refine lv_isub hx hb dX8_countedNumber_124 ?_
    exact W.iret (v := ((nI sz) - (nI (cntB (rchB gsp 3) sz)))) hx hb hr (fun t9 ht9 hW9 => ⟨⟨((nI sz) - (nI (cntB (rchB gsp 3) sz))), (), rfl, rfl, by rw [ht9]; exact hP, hD⟩, hS.F ht9⟩) hS.2.2 dX8_countedNumber_125
  · refine lv_tableOut (tgt := 126) hx hb dX8_countedNumber_1 (by decide) (by decide) ?_
    refine lv_aload_n hx hb dX8_countedNumber_126 rfl (lv_at hl 0 rfl) ?_
    refine va_get (D := D) (ci := 8) (v := .ref hi) (C := RX8) (T := TX8) (N := 10) hx hb hts hiX8 hown hK hP 0 rfl rfl 1 (by decide) (hts (.fieldLink RX8 19 "LedgeLeaps" "history" "LLedgeLeaps$History;") (List.mem_of_getElem? (i := 9) rfl)) (fun _ h9 => h9) rfl dX8_countedNumber_127 ?_
    refine va_get (D := D) (ci := 1) (v := .int hn) (C := RX1) (T := TX1) (N := 2) hx hb hts hiX1 hown hK hP 7 rfl rfl 0 (by decide) (hts (.fieldLink RX8 211 "LedgeLeaps$History" "size" "I") (List.mem_of_getElem? (i := 10) rfl)) (fun _ h9 => h9) rfl dX8_countedNumber_130 ?_
    exact W.iret (v := hn) hx hb hr (fun t9 ht9 hW9 => ⟨⟨hn, (), rfl, rfl, by rw [ht9]; exact hP, hD⟩, hS.F ht9⟩) hS.2.2 dX8_countedNumber_133
set_option maxHeartbeats 4000000 in
set_option maxRecDepth 100000 in
theorem m_leapNumber (l : Launch) (D : va_G) (cI cZ cW cJ : ClassId) (A : Nat → Prop) (X : va_W) (xo hi sn tx f mm re ro : Nat) (mk rk : Bool) (w wb ws : Nat) (wc wr wl ww wf : Int32) (wbl : Nat → Int32) (wse : Nat → Int32) (fc fr ft fo fm fs fi : Int32) (xc xr xd xu : Int32) (ak : Nat) (hak : ak < 5) : Met l yX8_leapNumber wsX8_leapNumber ({ frames := 3, cells := 0, slots := 0, locals := 71 }) (va_Pc [.ref xo, .int xc, .int xr, .int xd, .int xu, .int (nI ak)] (wd D (tyL cI cZ cW cJ) A (oX8 xo w hi sn tx f mm re ro (bI mk) (bI rk) :: oX7 w wb ws wc wr wl ww wf :: aI cI wb 10 wbl :: aI cI ws 3 wse :: oX0 f fc fr ft fo fm fs fi :: X))) (va_Qi (fun (r : Int32) (u : Int32 × Int32 × Int32 × Int32 × Int32 × Int32 × Int32) => r = (if grB (blkX wbl) xc xr xd < xu then -1 else leapF (flyF (blkX wbl) xd (wse 1) (wse 2) 100 xc xr 0 xr false (xu + 1) (wse 0)) ak)) (fun (u : Int32 × Int32 × Int32 × Int32 × Int32 × Int32 × Int32) t => wq D A (oX8 xo w hi sn tx f mm re ro (bI mk) (bI rk) :: oX7 w wb ws wc wr wl ww wf :: aI cI wb 10 wbl :: aI cI ws 3 wse :: oX0 f u.1 u.2.1 u.2.2.1 u.2.2.2.1 u.2.2.2.2.1 u.2.2.2.2.2.1 u.2.2.2.2.2.2 :: X) t) A) 0 0 A := by
  refine Met.ofW (cc := cX8_leapNumber) (maxL := 6) (ret := (some .int)) (by decide) rfl ?_
  intro p e s m args below meth c s₁ B hml hv
  obtain ⟨rfl, hsz9, hP, hK, hD, hN⟩ := hv
  have hx := B.exec
  have hb := B.bytes
  have hr := B.returns
  have hts := atoms_spec (ws := wsX8_leapNumber) B.pre
  have hown : s.vm.findClass RX8 = some m.cls := findClass_of_methodNamed B.named
  have hlocks := B.notSynchronized
  have CF : CallFix p m c cX8_leapNumber 6 s _ wsX8_leapNumber RX8 := ⟨hx, hb, hml, hown, hts⟩
  have hA : ∀ q : Nat, s.heap.size ≤ q → A q := hsz9
  have hS : va_S A s.heap s.heap [] := va_S.rf
  have hiX0 : ∀ w ∈ u_ws RX0 TX0 7, w ∈ wsX8_leapNumber := fun _ h => List.mem_cons_of_mem _ (List.mem_append_left _ (List.mem_append_right _ (h)))
  have hiX8 : ∀ w ∈ u_ws RX8 TX8 10, w ∈ wsX8_leapNumber := fun _ h => List.mem_cons_of_mem _ (List.mem_append_left _ (List.mem_append_left _ (List.mem_append_right _ (h))))
  have hl := lv_entry ([.ref xo, .int xc, .int xr, .int xd, .int xu, .int (nI ak)]) (n := 6) (Nat.le_of_ble_eq_true rfl)
  rw [lg_entry_eq]
  generalize (lg_sl ([.ref xo, .int xc, .int xr, .int xd, .int xu, .int (nI ak)]) ++ List.replicate (6 - (lg_sl ([.ref xo, .int xc, .int xr, .int xd, .int xu, .int (nI ak)])).length) Slot.unset).toArray = ls at hl ⊢
  have hl : lv_has ls 6 [(0, .ref xo), (1, .int xc), (2, .int xr), (3, .int xd), (4, .int xu), (5, .int (nI ak))] := hl
  show W p l e ({ frames := 3, cells := 0, slots := 0, locals := 71 } : Room) s m (([.ref xo, .int xc, .int xr, .int xd, .int xu, .int (nI ak)] : List Value).toArray) below meth c s.heap [] 0 0 (MQ below (va_Qi (fun (r : Int32) (u : Int32 × Int32 × Int32 × Int32 × Int32 × Int32 × Int32) => r = (if grB (blkX wbl) xc xr xd < xu then -1 else leapF (flyF (blkX wbl) xd (wse 1) (wse 2) 100 xc xr 0 xr false (xu + 1) (wse 0)) ak)) (fun (u : Int32 × Int32 × Int32 × Int32 × Int32 × Int32 × Int32) t => wq D A (oX8 xo w hi sn tx f mm re ro (bI mk) (bI rk) :: oX7 w wb ws wc wr wl ww wf :: aI cI wb 10 wbl :: aI cI ws 3 wse :: oX0 f u.1 u.2.1 u.2.2.1 u.2.2.2.1 u.2.2.2.2.1 u.2.2.2.2.2.1 u.2.2.2.2.2.2 :: X) t) A) (([.ref xo, .int xc, .int xr, .int xd, .int xu, .int (nI ak)] : List Value).toArray) s 0 0 A) (F0 m 0 ls [])
  refine lv_iload hx hb dX8_leapNumber_0 (lv_at hl 4 rfl) ?_
  refine lv_aload_n hx hb dX8_leapNumber_2 rfl (lv_at hl 0 rfl) ?_
  refine va_get (D := D) (ci := 8) (v := .ref w) (C := RX8) (T := TX8) (N := 10) hx hb hts hiX8 hown hK hP 0 rfl rfl 0 (by decide) (hts (.fieldLink RX8 12 "LedgeLeaps" "world" "LLedgeLeaps$World;") (List.mem_of_getElem? (i := 1) rfl)) (fun _ h9 => h9) rfl dX8_leapNumber_3 ?_
  refine lv_iload_n hx hb dX8_leapNumber_6 rfl (lv_at hl 1 rfl) ?_
  refine lv_iload_n hx hb dX8_leapNumber_7 rfl (lv_at hl 2 rfl) ?_
  refine lv_iload_n hx hb dX8_leapNumber_8 rfl (lv_at hl 3 rfl) ?_
  refine cV_i CF hK hN hA hS (cut_of 5 [1, 2, 0, 3, 4] hP hD rfl rfl rfl) (m_greatestRunUp l D cI cZ cW cJ A (oX8 xo w hi sn tx f mm re ro (bI mk) (bI rk) :: aI cI ws 3 wse :: oX0 f fc fr ft fo fm fs fi :: X) w wb ws wc wr wl ww wf wbl xc xr xd) (cwV 3 hts gX8_leapNumber_X7_greatestRunUp rfl rfl rfl (by decide +kernel) ⟨Nat.le_of_ble_eq_true rfl, Nat.le_of_ble_eq_true rfl⟩) (As := [.int xc, .int xr, .int xd]) (rest := [.int xu]) (ci := 7) (q0 := 0) rfl rfl rfl hl.1 rfl (Nat.le_of_ble_eq_true rfl) dX8_leapNumber_9 ⟨Nat.le_of_ble_eq_true rfl, Nat.le_of_ble_eq_true rfl⟩ (fun r_9 _ H locs hq hP hD hS => ?_)
  have hq : r_9 = grB (blkX wbl) xc xr xd := hq
  subst hq
  have hP : va_P D vwCl (oX8 xo w hi sn tx f mm re ro (bI mk) (bI rk) :: oX7 w wb ws wc wr wl ww wf :: aI cI wb 10 wbl :: aI cI ws 3 wse :: oX0 f fc fr ft fo fm fs fi :: X) H := pm_P hP 5 [2, 0, 1, 3, 4] rfl
  have hD : va_D A (oX8 xo w hi sn tx f mm re ro (bI mk) (bI rk) :: oX7 w wb ws wc wr wl ww wf :: aI cI wb 10 wbl :: aI cI ws 3 wse :: oX0 f fc fr ft fo fm fs fi :: X) := pm_D hD 5 [2, 0, 1, 3, 4] rfl rfl rfl
  refine lv_icmp_le (tgt := 17) hx hb dX8_leapNumber_12 (by decide) (fun c_12 => ?_) (fun c_12 => ?_)
  · refine lv_aload_n hx hb dX8_leapNumber_17 rfl (lv_at hl 0 rfl) ?_
    refine va_get (D := D) (ci := 8) (v := .ref f) (C := RX8) (T := TX8) (N := 10) hx hb hts hiX8 hown hK hP 0 rfl rfl 4 (by decide) (hts (.fieldLink RX8 40 "LedgeLeaps" "flight" "LLedgeLeaps$Flight;") (List.mem_of_getElem? (i := 2) rfl)) (fun _ h9 => h9) rfl dX8_leapNumber_18 ?_
    refine lv_aload_n hx hb dX8_leapNumber_21 rfl (lv_at hl 0 rfl) ?_
    refine va_get (D := D) (ci := 8) (v := .ref w) (C := RX8) (T := TX8) (N := 10) hx hb hts hiX8 hown hK hP 0 rfl rfl 0 (by decide) (hts (.fieldLink RX8 12 "LedgeLeaps" "world" "LLedgeLeaps$World;") (List.mem_of_getElem? (i := 1) rfl)) (fun _ h9 => h9) rfl dX8_leapNumber_22 ?_
    refine lv_iload_n hx hb dX8_leapNumber_25 rfl (lv_at hl 1 rfl) ?_
    refine lv_iload_n hx hb dX8_leapNumber_26 rfl (lv_at hl 2 rfl) ?_
    refine lv_iload_n hx hb dX8_leapNumber_27 rfl (lv_at hl 3 rfl) ?_
    refine lv_iload hx hb dX8_leapNumber_28 (lv_at hl 4 rfl) ?_
    refine cV_v CF hK hN hA hS (cut_of 5 [4, 1, 2, 3, 0] hP hD rfl rfl rfl) (m_fly l D cI cZ cW cJ A (oX8 xo w hi sn tx f mm re ro (bI mk) (bI rk) :: X) f fc fr ft fo fm fs fi w wb ws wc wr wl ww wf wbl wse xc xr xd xu) (cwV 5 hts gX8_leapNumber_X0_fly rfl rfl rfl (by decide +kernel) ⟨Nat.le_of_ble_eq_true rfl, Nat.le_of_ble_eq_true rfl⟩) (As := [.ref w, .int xc, .int xr, .int xd, .int xu]) (rest := []) (ci := 0) (q0 := 0) rfl rfl rfl hl.1 rfl (Nat.le_of_ble_eq_true rfl) dX8_leapNumber_30 ⟨Nat.le_of_ble_eq_true rfl, Nat.le_of_ble_eq_true rfl⟩ (fun u_30 H locs hq hP hD hS => ?_)
    have hq_30 : u_30 = flyF (blkX wbl) xd (wse 1) (wse 2) 100 xc xr 0 xr false (xu + 1) (wse 0) := hq
    have hP : va_P D vwCl (oX8 xo w hi sn tx f mm re ro (bI mk) (bI rk) :: oX7 w wb ws wc wr wl ww wf :: aI cI wb 10 wbl :: aI cI ws 3 wse :: oX0 f u_30.1 u_30.2.1 u_30.2.2.1 u_30.2.2.2.1 (bI u_30.2.2.2.2.1) u_30.2.2.2.2.2.1 u_30.2.2.2.2.2.2 :: X) H := pm_P hP 5 [4, 1, 2, 3, 0] rfl
    have hD : va_D A (oX8 xo w hi sn tx f mm re ro (bI mk) (bI rk) :: oX7 w wb ws wc wr wl ww wf :: aI cI wb 10 wbl :: aI cI ws 3 wse :: oX0 f u_30.1 u_30.2.1 u_30.2.2.1 u_30.2.2.2.1 (bI u_30.2.2.2.2.1) u_30.2.2.2.2.2.1 u_30.2.2.2.2.2.2 :: X) := pm_D hD 5 [4, 1, 2, 3, 0] rfl rfl rfl
    refine lv_iload hx hb dX8_leapNumber_33 (lv_at hl 5 rfl) ?_
    rcases (show ak = 0 ∨ ak = 1 ∨ ak = 2 ∨ ak = 3 ∨ ak = 4 by omega) with rfl | rfl | rfl | rfl | rfl
    · refine lv_tableIn (tgt := 64) hx hb dX8_leapNumber_35 (by decide) (by decide) rfl (by decide) ?_
      refine lv_aload_n hx hb dX8_leapNumber_64 rfl (lv_at hl 0 rfl) ?_
      refine va_get (D := D) (ci := 8) (v := .ref f) (C := RX8) (T := TX8) (N := 10) hx hb hts hiX8 hown hK hP 0 rfl rfl 4 (by decide) (hts (.fieldLink RX8 40 "LedgeLeaps" "flight" "LLedgeLeaps$Flight;") (List.mem_of_getElem? (i := 2) rfl)) (fun _ h9 => h9) rfl dX8_leapNumber_65 ?_
      refine va_get (D := D) (ci := 0) (v := .int u_30.1) (C := RX0) (T := TX0) (N := 7) hx hb hts hiX0 hown hK hP 4 rfl rfl 0 (by decide) (hts (.fieldLink RX8 333 "LedgeLeaps$Flight" "column" "I") (List.mem_of_getElem? (i := 3) rfl)) (fun _ h9 => h9) rfl dX8_leapNumber_68 ?_
      exact W.iret (v := u_30.1) hx hb hr (fun t9 ht9 hW9 => ⟨⟨u_30.1, (u_30.1, u_30.2.1, u_30.2.2.1, u_30.2.2.2.1, bI u_30.2.2.2.2.1, u_30.2.2.2.2.2.1, u_30.2.2.2.2.2.2), rfl, by rw [if_neg (Int32.not_lt.mpr c_12), ← hq_30]; rfl, by rw [ht9]; exact hP, hD⟩, hS.F ht9⟩) hS.2.2 dX8_leapNumber_71
    · refine lv_tableIn (tgt := 72) hx hb dX8_leapNumber_35 (by decide) (by decide) rfl (by decide) ?_
      refine lv_aload_n hx hb dX8_leapNumber_72 rfl (lv_at hl 0 rfl) ?_
      refine va_get (D := D) (ci := 8) (v := .ref f) (C := RX8) (T := TX8) (N := 10) hx hb hts hiX8 hown hK hP 0 rfl rfl 4 (by decide) (hts (.fieldLink RX8 40 "LedgeLeaps" "flight" "LLedgeLeaps$Flight;") (List.mem_of_getElem? (i := 2) rfl)) (fun _ h9 => h9) rfl dX8_leapNumber_73 ?_
      refine va_get (D := D) (ci := 0) (v := .int u_30.2.1) (C := RX0) (T := TX0) (N := 7) hx hb hts hiX0 hown hK hP 4 rfl rfl 1 (by decide) (hts (.fieldLink RX8 334 "LedgeLeaps$Flight" "row" "I") (List.mem_of_getElem? (i := 4) rfl)) (fun _ h9 => h9) rfl dX8_leapNumber_76 ?_
      exact W.iret (v := u_30.2.1) hx hb hr (fun t9 ht9 hW9 => ⟨⟨u_30.2.1, (u_30.1, u_30.2.1, u_30.2.2.1, u_30.2.2.2.1, bI u_30.2.2.2.2.1, u_30.2.2.2.2.2.1, u_30.2.2.2.2.2.2), rfl, by rw [if_neg (Int32.not_lt.mpr c_12), ← hq_30]; rfl, by rw [ht9]; exact hP, hD⟩, hS.F ht9⟩) hS.2.2 dX8_leapNumber_79
    · refine lv_tableIn (tgt := 80) hx hb dX8_leapNumber_35 (by decide) (by decide) rfl (by decide) ?_
      refine lv_aload_n hx hb dX8_leapNumber_80 rfl (lv_at hl 0 rfl) ?_
      refine va_get (D := D) (ci := 8) (v := .ref f) (C := RX8) (T := TX8) (N := 10) hx hb hts hiX8 hown hK hP 0 rfl rfl 4 (by decide) (hts (.fieldLink RX8 40 "LedgeLeaps" "flight" "LLedgeLeaps$Flight;") (List.mem_of_getElem? (i := 2) rfl)) (fun _ h9 => h9) rfl dX8_leapNumber_81 ?_
      refine va_get (D := D) (ci := 0) (v := .int u_30.2.2.1) (C := RX0) (T := TX0) (N := 7) hx hb hts hiX0 hown hK hP 4 rfl rfl 2 (by decide) (hts (.fieldLink RX8 391 "LedgeLeaps$Flight" "ticks" "I") (List.mem_of_getElem? (i := 5) rfl)) (fun _ h9 => h9) rfl dX8_leapNumber_84 ?_
      exact W.iret (v := u_30.2.2.1) hx hb hr (fun t9 ht9 hW9 => ⟨⟨u_30.2.2.1, (u_30.1, u_30.2.1, u_30.2.2.1, u_30.2.2.2.1, bI u_30.2.2.2.2.1, u_30.2.2.2.2.2.1, u_30.2.2.2.2.2.2), rfl, by rw [if_neg (Int32.not_lt.mpr c_12), ← hq_30]; rfl, by rw [ht9]; exact hP, hD⟩, hS.F ht9⟩) hS.2.2 dX8_leapNumber_87
    · refine lv_tableIn (tgt := 88) hx hb dX8_leapNumber_35 (by decide) (by decide) rfl (by decide) ?_
      refine lv_aload_n hx hb dX8_leapNumber_88 rfl (lv_at hl 0 rfl) ?_
      refine va_get (D := D) (ci := 8) (v := .ref f) (C := RX8) (T := TX8) (N := 10) hx hb hts hiX8 hown hK hP 0 rfl rfl 4 (by decide) (hts (.fieldLink RX8 40 "LedgeLeaps" "flight" "LLedgeLeaps$Flight;") (List.mem_of_getElem? (i := 2) rfl)) (fun _ h9 => h9) rfl dX8_leapNumber_89 ?_
      refine va_get (D := D) (ci := 0) (v := .int u_30.2.2.2.1) (C := RX0) (T := TX0) (N := 7) hx hb hts hiX0 hown hK hP 4 rfl rfl 3 (by decide) (hts (.fieldLink RX8 394 "LedgeLeaps$Flight" "topRow" "I") (List.mem_of_getElem? (i := 6) rfl)) (fun _ h9 => h9) rfl dX8_leapNumber_92 ?_
      exact W.iret (v := u_30.2.2.2.1) hx hb hr (fun t9 ht9 hW9 => ⟨⟨u_30.2.2.2.1, (u_30.1, u_30.2.1, u_30.2.2.1, u_30.2.2.2.1, bI u_30.2.2.2.2.1, u_30.2.2.2.2.2.1, u_30.2.2.2.2.2.2), rfl, by rw [if_neg (Int32.not_lt.mpr c_12), ← hq_30]; rfl, by rw [ht9]; exact hP, hD⟩, hS.F ht9⟩) hS.2.2 dX8_leapNumber_95
    · refine lv_tableOut (tgt := 96) hx hb dX8_leapNumber_35 (by decide) (by decide) ?_
      refine lv_aload_n hx hb dX8_leapNumber_96 rfl (lv_at hl 0 rfl) ?_
      refine va_get (D := D) (ci := 8) (v := .ref f) (C := RX8) (T := TX8) (N := 10) hx hb hts hiX8 hown hK hP 0 rfl rfl 4 (by decide) (hts (.fieldLink RX8 40 "LedgeLeaps" "flight" "LLedgeLeaps$Flight;") (List.mem_of_getElem? (i := 2) rfl)) (fun _ h9 => h9) rfl dX8_leapNumber_97 ?_
      refine va_get (D := D) (ci := 0) (v := .int (bI u_30.2.2.2.2.1)) (C := RX0) (T := TX0) (N := 7) hx hb hts hiX0 hown hK hP 4 rfl rfl 4 (by decide) (hts (.fieldLink RX8 338 "LedgeLeaps$Flight" "wallIsMet" "Z") (List.mem_of_getElem? (i := 7) rfl)) (fun _ h9 => h9) rfl dX8_leapNumber_100 ?_
      refine lv_if_eq (tgt := 110) hx hb dX8_leapNumber_103 (by decide) (fun c_103 => ?_) (fun c_103 => ?_)
      · refine lv_iconst (v := 0) hx hb dX8_leapNumber_110 (by decide) ?_
        exact W.iret (v := 0) hx hb hr (fun t9 ht9 hW9 => ⟨⟨0, (u_30.1, u_30.2.1, u_30.2.2.1, u_30.2.2.2.1, bI u_30.2.2.2.2.1, u_30.2.2.2.2.2.1, u_30.2.2.2.2.2.2), rfl, by rw [if_neg (Int32.not_lt.mpr c_12), ← hq_30]; show _ = bI u_30.2.2.2.2.1; rw [bf_c c_103]; rfl, by rw [ht9]; exact hP, hD⟩, hS.F ht9⟩) hS.2.2 dX8_leapNumber_111
      · refine lv_iconst (v := 1) hx hb dX8_leapNumber_106 (by decide) ?_
        refine lv_goto (tgt := 111) hx hb dX8_leapNumber_107 (by decide) ?_
        exact W.iret (v := 1) hx hb hr (fun t9 ht9 hW9 => ⟨⟨1, (u_30.1, u_30.2.1, u_30.2.2.1, u_30.2.2.2.1, bI u_30.2.2.2.2.1, u_30.2.2.2.2.2.1, u_30.2.2.2.2.2.2), rfl, by rw [if_neg (Int32.not_lt.mpr c_12), ← hq_30]; show _ = bI u_30.2.2.2.2.1; rw [bt_c c_103]; rfl, by rw [ht9]; exact hP, hD⟩, hS.F ht9⟩) hS.2.2 dX8_leapNumber_111
  · refine lv_iconst (v := (-1)) hx hb dX8_leapNumber_15 (by decide) ?_
    exact W.iret (v := (-1)) hx hb hr (fun t9 ht9 hW9 => ⟨⟨(-1), (fc, fr, ft, fo, fm, fs, fi), rfl, by rw [if_pos (Int32.not_le.mp c_12)], by rw [ht9]; exact hP, hD⟩, hS.F ht9⟩) hS.2.2 dX8_leapNumber_16
set_option maxHeartbeats 4000000 in
set_option maxRecDepth 100000 in
theorem m_heightByTicks (l : Launch) (D : va_G) (cI cZ cW cJ : ClassId) (A : Nat → Prop) (X : va_W) (an : Nat) (xa xf : Int32) (han : an ≤ 100) : Met l yX8_heightByTicks wsX8_heightByTicks ({ frames := 1, cells := 0, slots := 0, locals := 13 }) (va_Pc [.int (nI an), .int xa, .int xf] (wd D (tyL cI cZ cW cJ) A (X))) (va_Qi (fun (r : Int32) (u : Unit) => r = hbtF xf an xa 0) (fun (u : Unit) t => wq D A (X) t) A) 0 0 A := by
  refine Met.ofW (cc := cX8_heightByTicks) (maxL := 6) (ret := (some .int)) (by decide) rfl ?_
  intro p e s m args below meth c s₁ B hml hv
  obtain ⟨rfl, hsz9, hP, hK, hD, hN⟩ := hv
  have hx := B.exec
  have hb := B.bytes
  have hr := B.returns
  have hts := atoms_spec (ws := wsX8_heightByTicks) B.pre
  have hown : s.vm.findClass RX8 = some m.cls := findClass_of_methodNamed B.named
  have hlocks := B.notSynchronized
  have CF : CallFix p m c cX8_heightByTicks 6 s _ wsX8_heightByTicks RX8 := ⟨hx, hb, hml, hown, hts⟩
  have hA : ∀ q : Nat, s.heap.size ≤ q → A q := hsz9
  have hS : va_S A s.heap s.heap [] := va_S.rf
  have hl := lv_entry ([.int (nI an), .int xa, .int xf]) (n := 6) (Nat.le_of_ble_eq_true rfl)
  rw [lg_entry_eq]
  generalize (lg_sl ([.int (nI an), .int xa, .int xf]) ++ List.replicate (6 - (lg_sl ([.int (nI an), .int xa, .int xf])).length) Slot.unset).toArray = ls at hl ⊢
  have hl : lv_has ls 6 [(0, .int (nI an)), (1, .int xa), (2, .int xf)] := hl
  show W p l e ({ frames := 1, cells := 0, slots := 0, locals := 13 } : Room) s m (([.int (nI an), .int xa, .int xf] : List Value).toArray) below meth c s.heap [] 0 0 (MQ below (va_Qi (fun (r : Int32) (u : Unit) => r = hbtF xf an xa 0) (fun (u : Unit) t => wq D A (X) t) A) (([.int (nI an), .int xa, .int xf] : List Value).toArray) s 0 0 A) (F0 m 0 ls [])
  refine lv_iconst (v := 0) hx hb dX8_heightByTicks_0 (by decide) ?_
  refine lv_istore_n (lv' := [(3, .int 0), (0, .int (nI an)), (1, .int xa), (2, .int xf)]) hx hb dX8_heightByTicks_1 rfl hl (by decide) rfl (fun ls hl => ?_)
  refine lv_iload_n hx hb dX8_heightByTicks_2 rfl (lv_at hl 2 rfl) ?_
  refine lv_istore (lv' := [(4, .int xa), (3, .int 0), (0, .int (nI an)), (1, .int xa), (2, .int xf)]) hx hb dX8_heightByTicks_3 hl (by decide) rfl (fun ls hl => ?_)
  refine lv_iconst (v := 0) hx hb dX8_heightByTicks_5 (by decide) ?_
  refine lv_istore (lv' := [(5, .int 0), (4, .int xa), (3, .int 0), (0, .int (nI an)), (1, .int xa), (2, .int xf)]) hx hb dX8_heightByTicks_6 hl (by decide) rfl (fun ls hl => ?_)
  have loop_8 : ∀ (nfu : Nat) (i : Nat) (h9 ri : Int32) (hn_8 : an - i < nfu) (hi : i ≤ an) (hv : hbtF xf (an - i) ri h9 = hbtF xf an xa 0) (H : Heap) (locs : List Loc) (hP : va_P D vwCl (X) H) (hD : va_D A (X)) (hS : va_S A s.heap H locs) (ls : Array Slot) (hl : lv_has ls 6 [(5, .int (nI i)), (4, .int ri), (3, .int h9), (0, .int (nI an)), (1, .int xa), (2, .int xf)]), W p l e ({ frames := 1, cells := 0, slots := 0, locals := 13 } : Room) s m (([.int (nI an), .int xa, .int xf] : List Value).toArray) below meth c H locs 0 0 (MQ below (va_Qi (fun (r : Int32) (u : Unit) => r = hbtF xf an xa 0) (fun (u : Unit) t => wq D A (X) t) A) (([.int (nI an), .int xa, .int xf] : List Value).toArray) s 0 0 A) (F0 m 8 ls []) := by
    intro nfu
    induction nfu with
    | zero => intro i h9 ri hn_8; exact absurd hn_8 (Nat.not_lt_zero _)
    | succ nfu ih_8 =>
      intro i h9 ri hn_8 hi hv H locs hP hD hS ls hl
      refine lv_iload hx hb dX8_heightByTicks_8 (lv_at hl 0 rfl) ?_
      refine lv_iload_n hx hb dX8_heightByTicks_10 rfl (lv_at hl 3 rfl) ?_
      refine lv_icmp_ge (tgt := 36) hx hb dX8_heightByTicks_11 (by decide) (fun c_11 => ?_) (fun c_11 => ?_)
      · refine lv_iload_n hx hb dX8_heightByTicks_36 rfl (lv_at hl 2 rfl) ?_
        exact W.iret (v := h9) hx hb hr (fun t9 ht9 hW9 => ⟨⟨h9, (), rfl, by rw [← hv, show an - i = 0 by have h := le_of_ge (a := an) (b := i) (by omega) (by omega) c_11; omega]; rfl, by rw [ht9]; exact hP, hD⟩, hS.F ht9⟩) hS.2.2 dX8_heightByTicks_37
      · refine lv_iload_n hx hb dX8_heightByTicks_14 rfl (lv_at hl 2 rfl) ?_
        refine lv_iload hx hb dX8_heightByTicks_15 (lv_at hl 1 rfl) ?_
        refine lv_iadd hx hb dX8_heightByTicks_17 ?_
        refine lv_istore_n (lv' := [(3, .int (h9 + ri)), (5, .int (nI i)), (4, .int ri), (0, .int (nI an)), (1, .int xa), (2, .int xf)]) hx hb dX8_heightByTicks_18 rfl hl (by decide) rfl (fun ls hl => ?_)
        refine lv_iload hx hb dX8_heightByTicks_19 (lv_at hl 2 rfl) ?_
        refine lv_iconst (v := 1) hx hb dX8_heightByTicks_21 (by decide) ?_
        refine lv_isub hx hb dX8_heightByTicks_22 ?_
        refine lv_iload_n hx hb dX8_heightByTicks_23 rfl (lv_at hl 5 rfl) ?_
        refine lv_ineg hx hb dX8_heightByTicks_24 ?_
        refine va_mmax hx hb (hml.trans hl.1.symm) hown (hts (.methodLink RX8 383 Lib.Math.max.name) (List.mem_of_getElem? (i := 1) rfl)) (hts (.static Lib.Math.max.name) (List.mem_of_getElem? (i := 2) rfl)) (hts (.initialized "java/lang/Math") (List.mem_of_getElem? (i := 3) rfl)) (hts (.code Lib.Math.max.name Lib.Math.max.code 2 (some .int)) (List.mem_of_getElem? (i := 4) rfl)) (Nat.le_of_ble_eq_true rfl) (Nat.le_of_ble_eq_true rfl) (Nat.zero_le _) (Nat.zero_le _) dX8_heightByTicks_25 ?_
        refine lv_istore (lv' := [(4, .int (if (ri - 1) < (-xf) then (-xf) else (ri - 1))), (3, .int (h9 + ri)), (5, .int (nI i)), (0, .int (nI an)), (1, .int xa), (2, .int xf)]) hx hb dX8_heightByTicks_28 hl (by decide) rfl (fun ls hl => ?_)
        refine lv_iinc (v := (nI (i + 1))) (lv' := [(5, .int (nI (i + 1))), (4, .int (if (ri - 1) < (-xf) then (-xf) else (ri - 1))), (3, .int (h9 + ri)), (0, .int (nI an)), (1, .int xa), (2, .int xf)]) hx hb dX8_heightByTicks_30 hl (k := 2) rfl (nI_1 i) (by decide) rfl (fun ls hl => ?_)
        refine lv_goto (tgt := 8) hx hb dX8_heightByTicks_33 (by decide) ?_
        exact ih_8 (i + 1) (h9 + ri) (max2 (ri - 1) (-xf)) (by have h := lt_of_nge (a := an) (b := i) (by omega) (by omega) c_11; omega) (lt_of_nge (a := an) (b := i) (by omega) (by omega) c_11) (by rw [← hv, show an - i = (an - (i + 1)) + 1 by have h := lt_of_nge (a := an) (b := i) (by omega) (by omega) c_11; omega, hbtF]) _ _ (hP) (hD) hS _ (lv_sub hl [0, 1, 2, 3, 4, 5] rfl)
  exact loop_8 _ 0 0 xa (Nat.lt_succ_self _) (Nat.zero_le _) (rfl) _ _ hP hD hS _ (lv_sub hl [0, 1, 2, 3, 4, 5] rfl)
set_option maxHeartbeats 4000000 in
set_option maxRecDepth 100000 in
theorem m_heightAtOnce (l : Launch) (D : va_G) (cI cZ cW cJ : ClassId) (A : Nat → Prop) (X : va_W) (xt xa xf : Int32) : Met l yX8_heightAtOnce wsX8_heightAtOnce ({ frames := 1, cells := 0, slots := 0, locals := 13 }) (va_Pc [.int xt, .int xa, .int xf] (wd D (tyL cI cZ cW cJ) A (X))) (va_Qi (fun (r : Int32) (u : Unit) => r = haoF xt xa xf) (fun (u : Unit) t => wq D A (X) t) A) 0 0 A := by
  refine Met.ofW (cc := cX8_heightAtOnce) (maxL := 4) (ret := (some .int)) (by decide) rfl ?_
  intro p e s m args below meth c s₁ B hml hv
  obtain ⟨rfl, hsz9, hP, hK, hD, hN⟩ := hv
  have hx := B.exec
  have hb := B.bytes
  have hr := B.returns
  have hts := atoms_spec (ws := wsX8_heightAtOnce) B.pre
  have hown : s.vm.findClass RX8 = some m.cls := findClass_of_methodNamed B.named
  have hlocks := B.notSynchronized
  have CF : CallFix p m c cX8_heightAtOnce 4 s _ wsX8_heightAtOnce RX8 := ⟨hx, hb, hml, hown, hts⟩
  have hA : ∀ q : Nat, s.heap.size ≤ q → A q := hsz9
  have hS : va_S A s.heap s.heap [] := va_S.rf
  have hl := lv_entry ([.int xt, .int xa, .int xf]) (n := 4) (Nat.le_of_ble_eq_true rfl)
  rw [lg_entry_eq]
  generalize (lg_sl ([.int xt, .int xa, .int xf]) ++ List.replicate (4 - (lg_sl ([.int xt, .int xa, .int xf])).length) Slot.unset).toArray = ls at hl ⊢
  have hl : lv_has ls 4 [(0, .int xt), (1, .int xa), (2, .int xf)] := hl
  show W p l e ({ frames := 1, cells := 0, slots := 0, locals := 13 } : Room) s m (([.int xt, .int xa, .int xf] : List Value).toArray) below meth c s.heap [] 0 0 (MQ below (va_Qi (fun (r : Int32) (u : Unit) => r = haoF xt xa xf) (fun (u : Unit) t => wq D A (X) t) A) (([.int xt, .int xa, .int xf] : List Value).toArray) s 0 0 A) (F0 m 0 ls [])
  refine lv_iload_n hx hb dX8_heightAtOnce_0 rfl (lv_at hl 0 rfl) ?_
  refine lv_iload_n hx hb dX8_heightAtOnce_1 rfl (lv_at hl 1 rfl) ?_
  refine lv_iload_n hx hb dX8_heightAtOnce_2 rfl (lv_at hl 2 rfl) ?_
  refine lv_iadd hx hb dX8_heightAtOnce_3 ?_
  refine va_mmin hx hb (hml.trans hl.1.symm) hown (hts (.methodLink RX8 388 Lib.Math.min.name) (List.mem_of_getElem? (i := 1) rfl)) (hts (.static Lib.Math.min.name) (List.mem_of_getElem? (i := 2) rfl)) (hts (.initialized "java/lang/Math") (List.mem_of_getElem? (i := 3) rfl)) (hts (.code Lib.Math.min.name Lib.Math.min.code 2 (some .int)) (List.mem_of_getElem? (i := 4) rfl)) (Nat.le_of_ble_eq_true rfl) (Nat.le_of_ble_eq_true rfl) (Nat.zero_le _) (Nat.zero_le _) dX8_heightAtOnce_4 ?_
  refine lv_istore_n (lv' := [(3, .int (if (xa + xf) < xt then (xa + xf) else xt)), (0, .int xt), (1, .int xa), (2, .int xf)]) hx hb dX8_heightAtOnce_7 rfl hl (by decide) rfl (fun ls hl => ?_)
  refine lv_iload_n hx hb dX8_heightAtOnce_8 rfl (lv_at hl 0 rfl) ?_
  refine lv_iload_n hx hb dX8_heightAtOnce_9 rfl (lv_at hl 2 rfl) ?_
  refine lv_imul hx hb dX8_heightAtOnce_10 ?_
  refine lv_iload_n hx hb dX8_heightAtOnce_11 rfl (lv_at hl 0 rfl) ?_
  refine lv_iload_n hx hb dX8_heightAtOnce_12 rfl (lv_at hl 0 rfl) ?_
  refine lv_iconst (v := 1) hx hb dX8_heightAtOnce_13 (by decide) ?_
  refine lv_isub hx hb dX8_heightAtOnce_14 ?_
  refine lv_imul hx hb dX8_heightAtOnce_15 ?_
  refine lv_iconst (v := 2) hx hb dX8_heightAtOnce_16 (by decide) ?_
  refine lv_idiv hx hb dX8_heightAtOnce_17 (by decide) ?_
  refine lv_isub hx hb dX8_heightAtOnce_18 ?_
  refine lv_iload_n hx hb dX8_heightAtOnce_19 rfl (lv_at hl 1 rfl) ?_
  refine lv_iload_n hx hb dX8_heightAtOnce_20 rfl (lv_at hl 0 rfl) ?_
  refine lv_isub hx hb dX8_heightAtOnce_21 ?_
  refine lv_iload_n hx hb dX8_heightAtOnce_22 rfl (lv_at hl 3 rfl) ?_
  refine lv_imul hx hb dX8_heightAtOnce_23 ?_
  refine lv_isub hx hb dX8_heightAtOnce_24 ?_
  exact W.iret (v := ((((if (xa + xf) < xt then (xa + xf) else xt) * xa) - (((if (xa + xf) < xt then (xa + xf) else xt) * ((if (xa + xf) < xt then (xa + xf) else xt) - 1)) / 2)) - ((xt - (if (xa + xf) < xt then (xa + xf) else xt)) * xf))) hx hb hr (fun t9 ht9 hW9 => ⟨⟨((((if (xa + xf) < xt then (xa + xf) else xt) * xa) - (((if (xa + xf) < xt then (xa + xf) else xt) * ((if (xa + xf) < xt then (xa + xf) else xt) - 1)) / 2)) - ((xt - (if (xa + xf) < xt then (xa + xf) else xt)) * xf)), (), rfl, rfl, by rw [ht9]; exact hP, hD⟩, hS.F ht9⟩) hS.2.2 dX8_heightAtOnce_25
set_option maxHeartbeats 4000000 in
set_option maxRecDepth 100000 in
theorem m_arcNumber (l : Launch) (D : va_G) (cI cZ cW cJ : ClassId) (A : Nat → Prop) (X : va_W) (xo hi sn tx f mm re ro : Nat) (mk rk : Bool) (w wb ws : Nat) (wc wr wl ww wf : Int32) (wse : Nat → Int32) (an : Nat) (xk : Int32) (han : an ≤ 100) : Met l yX8_arcNumber wsX8_arcNumber ({ frames := 2, cells := 0, slots := 0, locals := 38 }) (va_Pc [.ref xo, .int (nI an), .int xk] (wd D (tyL cI cZ cW cJ) A (oX8 xo w hi sn tx f mm re ro (bI mk) (bI rk) :: oX7 w wb ws wc wr wl ww wf :: aI cI ws 3 wse :: X))) (va_Qi (fun (r : Int32) (u : Unit) => r = 200 + (if xk = 0 then hbtF (wse 1) an (wse 0) 0 else haoF (nI an) (wse 0) (wse 1))) (fun (u : Unit) t => wq D A (oX8 xo w hi sn tx f mm re ro (bI mk) (bI rk) :: oX7 w wb ws wc wr wl ww wf :: aI cI ws 3 wse :: X) t) A) 0 0 A := by
  refine Met.ofW (cc := cX8_arcNumber) (maxL := 5) (ret := (some .int)) (by decide) rfl ?_
  intro p e s m args below meth c s₁ B hml hv
  obtain ⟨rfl, hsz9, hP, hK, hD, hN⟩ := hv
  have hx := B.exec
  have hb := B.bytes
  have hr := B.returns
  have hts := atoms_spec (ws := wsX8_arcNumber) B.pre
  have hown : s.vm.findClass RX8 = some m.cls := findClass_of_methodNamed B.named
  have hlocks := B.notSynchronized
  have CF : CallFix p m c cX8_arcNumber 5 s _ wsX8_arcNumber RX8 := ⟨hx, hb, hml, hown, hts⟩
  have hA : ∀ q : Nat, s.heap.size ≤ q → A q := hsz9
  have hS : va_S A s.heap s.heap [] := va_S.rf
  have hiX7 : ∀ w ∈ u_ws RX7 TX7 7, w ∈ wsX8_arcNumber := fun _ h => List.mem_cons_of_mem _ (List.mem_append_right _ (h))
  have hiX8 : ∀ w ∈ u_ws RX8 TX8 10, w ∈ wsX8_arcNumber := fun _ h => List.mem_cons_of_mem _ (List.mem_append_left _ (List.mem_append_right _ (h)))
  have hl := lv_entry ([.ref xo, .int (nI an), .int xk]) (n := 5) (Nat.le_of_ble_eq_true rfl)
  rw [lg_entry_eq]
  generalize (lg_sl ([.ref xo, .int (nI an), .int xk]) ++ List.replicate (5 - (lg_sl ([.ref xo, .int (nI an), .int xk])).length) Slot.unset).toArray = ls at hl ⊢
  have hl : lv_has ls 5 [(0, .ref xo), (1, .int (nI an)), (2, .int xk)] := hl
  show W p l e ({ frames := 2, cells := 0, slots := 0, locals := 38 } : Room) s m (([.ref xo, .int (nI an), .int xk] : List Value).toArray) below meth c s.heap [] 0 0 (MQ below (va_Qi (fun (r : Int32) (u : Unit) => r = 200 + (if xk = 0 then hbtF (wse 1) an (wse 0) 0 else haoF (nI an) (wse 0) (wse 1))) (fun (u : Unit) t => wq D A (oX8 xo w hi sn tx f mm re ro (bI mk) (bI rk) :: oX7 w wb ws wc wr wl ww wf :: aI cI ws 3 wse :: X) t) A) (([.ref xo, .int (nI an), .int xk] : List Value).toArray) s 0 0 A) (F0 m 0 ls [])
  refine lv_aload_n hx hb dX8_arcNumber_0 rfl (lv_at hl 0 rfl) ?_
  refine va_get (D := D) (ci := 8) (v := .ref w) (C := RX8) (T := TX8) (N := 10) hx hb hts hiX8 hown hK hP 0 rfl rfl 0 (by decide) (hts (.fieldLink RX8 12 "LedgeLeaps" "world" "LLedgeLeaps$World;") (List.mem_of_getElem? (i := 1) rfl)) (fun _ h9 => h9) rfl dX8_arcNumber_1 ?_
  refine va_get (D := D) (ci := 7) (v := .ref ws) (C := RX7) (T := TX7) (N := 7) hx hb hts hiX7 hown hK hP 1 rfl rfl 1 (by decide) (hts (.fieldLink RX8 103 "LedgeLeaps$World" "settings" "[I") (List.mem_of_getElem? (i := 2) rfl)) (fun _ h9 => h9) rfl dX8_arcNumber_4 ?_
  refine lv_iconst (v := 0) hx hb dX8_arcNumber_7 (by decide) ?_
  refine cS_i CF hK hN hA hS (cut_of 3 [2, 0, 1] hP hD rfl rfl rfl) (m_at l D cI cZ cW cJ A (oX8 xo w hi sn tx f mm re ro (bI mk) (bI rk) :: oX7 w wb ws wc wr wl ww wf :: X) ws 3 wse 0 (by decide)) (va_cwS 2 hts gX8_arcNumber_X8_at rfl rfl rfl (by decide +kernel) ⟨Nat.le_of_ble_eq_true rfl, Nat.le_of_ble_eq_true rfl⟩) (As := [.ref ws, .int 0]) (rest := []) rfl hl.1 rfl (Nat.le_of_ble_eq_true rfl) dX8_arcNumber_8 ⟨Nat.le_of_ble_eq_true rfl, Nat.le_of_ble_eq_true rfl⟩ (fun r_8 _ H locs hq hP hD hS => ?_)
  have hq : r_8 = atX 3 wse 0 := hq
  subst hq
  have hP : va_P D vwCl (oX8 xo w hi sn tx f mm re ro (bI mk) (bI rk) :: oX7 w wb ws wc wr wl ww wf :: aI cI ws 3 wse :: X) H := pm_P hP 3 [1, 2, 0] rfl
  have hD : va_D A (oX8 xo w hi sn tx f mm re ro (bI mk) (bI rk) :: oX7 w wb ws wc wr wl ww wf :: aI cI ws 3 wse :: X) := pm_D hD 3 [1, 2, 0] rfl rfl rfl
  refine top_i (y := (wse 0)) (at30 wse) ?_
  refine lv_istore_n (lv' := [(3, .int (wse 0)), (0, .ref xo), (1, .int (nI an)), (2, .int xk)]) hx hb dX8_arcNumber_11 rfl hl (by decide) rfl (fun ls hl => ?_)
  refine lv_aload_n hx hb dX8_arcNumber_12 rfl (lv_at hl 1 rfl) ?_
  refine va_get (D := D) (ci := 8) (v := .ref w) (C := RX8) (T := TX8) (N := 10) hx hb hts hiX8 hown hK hP 0 rfl rfl 0 (by decide) (hts (.fieldLink RX8 12 "LedgeLeaps" "world" "LLedgeLeaps$World;") (List.mem_of_getElem? (i := 1) rfl)) (fun _ h9 => h9) rfl dX8_arcNumber_13 ?_
  refine va_get (D := D) (ci := 7) (v := .ref ws) (C := RX7) (T := TX7) (N := 7) hx hb hts hiX7 hown hK hP 1 rfl rfl 1 (by decide) (hts (.fieldLink RX8 103 "LedgeLeaps$World" "settings" "[I") (List.mem_of_getElem? (i := 2) rfl)) (fun _ h9 => h9) rfl dX8_arcNumber_16 ?_
  refine lv_iconst (v := 1) hx hb dX8_arcNumber_19 (by decide) ?_
  refine cS_i CF hK hN hA hS (cut_of 3 [2, 0, 1] hP hD rfl rfl rfl) (m_at l D cI cZ cW cJ A (oX8 xo w hi sn tx f mm re ro (bI mk) (bI rk) :: oX7 w wb ws wc wr wl ww wf :: X) ws 3 wse 1 (by decide)) (va_cwS 2 hts gX8_arcNumber_X8_at rfl rfl rfl (by decide +kernel) ⟨Nat.le_of_ble_eq_true rfl, Nat.le_of_ble_eq_true rfl⟩) (As := [.ref ws, .int 1]) (rest := []) rfl hl.1 rfl (Nat.le_of_ble_eq_true rfl) dX8_arcNumber_20 ⟨Nat.le_of_ble_eq_true rfl, Nat.le_of_ble_eq_true rfl⟩ (fun r_20 _ H locs hq hP hD hS => ?_)
  have hq : r_20 = atX 3 wse 1 := hq
  subst hq
  have hP : va_P D vwCl (oX8 xo w hi sn tx f mm re ro (bI mk) (bI rk) :: oX7 w wb ws wc wr wl ww wf :: aI cI ws 3 wse :: X) H := pm_P hP 3 [1, 2, 0] rfl
  have hD : va_D A (oX8 xo w hi sn tx f mm re ro (bI mk) (bI rk) :: oX7 w wb ws wc wr wl ww wf :: aI cI ws 3 wse :: X) := pm_D hD 3 [1, 2, 0] rfl rfl rfl
  refine top_i (y := (wse 1)) (at31 wse) ?_
  refine lv_istore (lv' := [(4, .int (wse 1)), (3, .int (wse 0)), (0, .ref xo), (1, .int (nI an)), (2, .int xk)]) hx hb dX8_arcNumber_23 hl (by decide) rfl (fun ls hl => ?_)
  refine lv_sipush (v := 200) hx hb dX8_arcNumber_25 (by decide) ?_
  refine lv_iload_n hx hb dX8_arcNumber_28 rfl (lv_at hl 4 rfl) ?_
  refine lv_if_ne (tgt := 42) hx hb dX8_arcNumber_29 (by decide) (fun c_29 => ?_) (fun c_29 => ?_)
  · refine lv_iload_n hx hb dX8_arcNumber_42 rfl (lv_at hl 3 rfl) ?_
    refine lv_iload_n hx hb dX8_arcNumber_43 rfl (lv_at hl 1 rfl) ?_
    refine lv_iload hx hb dX8_arcNumber_44 (lv_at hl 0 rfl) ?_
    refine cS_i CF hK hN hA hS (cut_of 3 [0, 1, 2] hP hD rfl rfl rfl) (m_heightAtOnce l D cI cZ cW cJ A (oX8 xo w hi sn tx f mm re ro (bI mk) (bI rk) :: oX7 w wb ws wc wr wl ww wf :: aI cI ws 3 wse :: X) (nI an) (wse 0) (wse 1)) (va_cwS 3 hts gX8_arcNumber_X8_heightAtOnce rfl rfl rfl (by decide +kernel) ⟨Nat.le_of_ble_eq_true rfl, Nat.le_of_ble_eq_true rfl⟩) (As := [.int (nI an), .int (wse 0), .int (wse 1)]) (rest := [.int 200]) rfl hl.1 rfl (Nat.le_of_ble_eq_true rfl) dX8_arcNumber_46 ⟨Nat.le_of_ble_eq_true rfl, Nat.le_of_ble_eq_true rfl⟩ (fun r_46 _ H locs hq hP hD hS => ?_)
    have hq : r_46 = haoF (nI an) (wse 0) (wse 1) := hq
    subst hq
    have hP : va_P D vwCl (oX8 xo w hi sn tx f mm re ro (bI mk) (bI rk) :: oX7 w wb ws wc wr wl ww wf :: aI cI ws 3 wse :: X) H := pm_P hP 3 [0, 1, 2] rfl
    have hD : va_D A (oX8 xo w hi sn tx f mm re ro (bI mk) (bI rk) :: oX7 w wb ws wc wr wl ww wf :: aI cI ws 3 wse :: X) := pm_D hD 3 [0, 1, 2] rfl rfl rfl
    refine lv_iadd hx hb dX8_arcNumber_49 ?_
    exact W.iret (v := (200 + (haoF (nI an) (wse 0) (wse 1)))) hx hb hr (fun t9 ht9 hW9 => ⟨⟨(200 + (haoF (nI an) (wse 0) (wse 1))), (), rfl, by rw [if_neg c_29], by rw [ht9]; exact hP, hD⟩, hS.F ht9⟩) hS.2.2 dX8_arcNumber_50
  · refine lv_iload_n hx hb dX8_arcNumber_32 rfl (lv_at hl 3 rfl) ?_
    refine lv_iload_n hx hb dX8_arcNumber_33 rfl (lv_at hl 1 rfl) ?_
    refine lv_iload hx hb dX8_arcNumber_34 (lv_at hl 0 rfl) ?_
    refine cS_i CF hK hN hA hS (cut_of 3 [0, 1, 2] hP hD rfl rfl rfl) (m_heightByTicks l D cI cZ cW cJ A (oX8 xo w hi sn tx f mm re ro (bI mk) (bI rk) :: oX7 w wb ws wc wr wl ww wf :: aI cI ws 3 wse :: X) an (wse 0) (wse 1) han) (va_cwS 3 hts gX8_arcNumber_X8_heightByTicks rfl rfl rfl (by decide +kernel) ⟨Nat.le_of_ble_eq_true rfl, Nat.le_of_ble_eq_true rfl⟩) (As := [.int (nI an), .int (wse 0), .int (wse 1)]) (rest := [.int 200]) rfl hl.1 rfl (Nat.le_of_ble_eq_true rfl) dX8_arcNumber_36 ⟨Nat.le_of_ble_eq_true rfl, Nat.le_of_ble_eq_true rfl⟩ (fun r_36 _ H locs hq hP hD hS => ?_)
    have hq : r_36 = hbtF (wse 1) an (wse 0) 0 := hq
    subst hq
    have hP : va_P D vwCl (oX8 xo w hi sn tx f mm re ro (bI mk) (bI rk) :: oX7 w wb ws wc wr wl ww wf :: aI cI ws 3 wse :: X) H := pm_P hP 3 [0, 1, 2] rfl
    have hD : va_D A (oX8 xo w hi sn tx f mm re ro (bI mk) (bI rk) :: oX7 w wb ws wc wr wl ww wf :: aI cI ws 3 wse :: X) := pm_D hD 3 [0, 1, 2] rfl rfl rfl
    refine lv_goto (tgt := 49) hx hb dX8_arcNumber_39 (by decide) ?_
    refine lv_iadd hx hb dX8_arcNumber_49 ?_
    exact W.iret (v := (200 + (hbtF (wse 1) an (wse 0) 0))) hx hb hr (fun t9 ht9 hW9 => ⟨⟨(200 + (hbtF (wse 1) an (wse 0) 0)), (), rfl, by rw [if_pos c_29], by rw [ht9]; exact hP, hD⟩, hS.F ht9⟩) hS.2.2 dX8_arcNumber_50
