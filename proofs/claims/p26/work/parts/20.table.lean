set_option maxHeartbeats 4000000 in
set_option maxRecDepth 100000 in
theorem m_beginTable (l : Launch) (D : va_G) (cI cZ cW cJ : ClassId) (A : Nat → Prop) (X : va_W) (ro rog rsp rqu rta : Nat) (rut : Int32) (gta : Nat → Int32) (re rl rf : Nat) (glr : Nat → Int32) (sz ak : Nat) (hsz : sz ≤ 100) : Met l yX5_beginTable wsX5_beginTable ({ frames := 3, cells := 0, slots := 0, locals := 67 }) (va_Pc [.ref ro, .ref re, .int (nI ak)] (wd D (tyL cI cZ cW cJ) A (oX5 ro rog rsp rqu rta rut :: aI cI rta 10000 gta :: oX4 re (nI sz) rl rf :: aI cI rl 10000 glr :: X))) (va_Qv (fun (u : Nat → Int32) => ∀ a c, a < sz → c < sz → En (Rk glr ak) 0 a c (u (100 * a + c))) (fun (u : Nat → Int32) t => wq D A (oX5 ro rog rsp rqu rta rut :: aI cI rta 10000 u :: oX4 re (nI sz) rl rf :: aI cI rl 10000 glr :: X) t) A) 0 0 A := by
  refine Met.ofW (cc := cX5_beginTable) (maxL := 6) (ret := none) (by decide) rfl ?_
  intro p e s m args below meth c s₁ B hml hv
  obtain ⟨rfl, hsz9, hP, hK, hD, hN⟩ := hv
  have hx := B.exec
  have hb := B.bytes
  have hr := B.returns
  have hts := atoms_spec (ws := wsX5_beginTable) B.pre
  have hown : s.vm.findClass RX5 = some m.cls := findClass_of_methodNamed B.named
  have hlocks := B.notSynchronized
  have CF : CallFix p m c cX5_beginTable 6 s _ wsX5_beginTable RX5 := ⟨hx, hb, hml, hown, hts⟩
  have hA : ∀ q : Nat, s.heap.size ≤ q → A q := hsz9
  have hS : va_S A s.heap s.heap [] := va_S.rf
  have hiX4 : ∀ w ∈ u_ws RX4 TX4 3, w ∈ wsX5_beginTable := fun _ h => List.mem_cons_of_mem _ (List.mem_append_left _ (List.mem_append_right _ (h)))
  have hiX5 : ∀ w ∈ u_ws RX5 TX5 5, w ∈ wsX5_beginTable := fun _ h => List.mem_cons_of_mem _ (List.mem_append_right _ (h))
  have hl := lv_entry ([.ref ro, .ref re, .int (nI ak)]) (n := 6) (Nat.le_of_ble_eq_true rfl)
  rw [lg_entry_eq]
  generalize (lg_sl ([.ref ro, .ref re, .int (nI ak)]) ++ List.replicate (6 - (lg_sl ([.ref ro, .ref re, .int (nI ak)])).length) Slot.unset).toArray = ls at hl ⊢
  have hl : lv_has ls 6 [(0, .ref ro), (1, .ref re), (2, .int (nI ak))] := hl
  show W p l e ({ frames := 3, cells := 0, slots := 0, locals := 67 } : Room) s m (([.ref ro, .ref re, .int (nI ak)] : List Value).toArray) below meth c s.heap [] 0 0 (MQ below (va_Qv (fun (u : Nat → Int32) => ∀ a c, a < sz → c < sz → En (Rk glr ak) 0 a c (u (100 * a + c))) (fun (u : Nat → Int32) t => wq D A (oX5 ro rog rsp rqu rta rut :: aI cI rta 10000 u :: oX4 re (nI sz) rl rf :: aI cI rl 10000 glr :: X) t) A) (([.ref ro, .ref re, .int (nI ak)] : List Value).toArray) s 0 0 A) (F0 m 0 ls [])
  refine lv_iconst (v := 0) hx hb dX5_beginTable_0 (by decide) ?_
  refine lv_istore_n (lv' := [(3, .int 0), (0, .ref ro), (1, .ref re), (2, .int (nI ak))]) hx hb dX5_beginTable_1 rfl hl (by decide) rfl (fun ls hl => ?_)
  have loop_2 : ∀ (nfu : Nat) (x : Nat) (T : Nat → Int32) (hn_2 : sz - x < nfu) (hx1 : x ≤ sz) (hT : ∀ a' c', a' < sz → c' < sz → a' < x → En (Rk glr ak) 0 a' c' (T (100 * a' + c'))) (H : Heap) (locs : List Loc) (hP : va_P D vwCl (oX5 ro rog rsp rqu rta rut :: aI cI rta 10000 T :: oX4 re (nI sz) rl rf :: aI cI rl 10000 glr :: X) H) (hD : va_D A (oX5 ro rog rsp rqu rta rut :: aI cI rta 10000 T :: oX4 re (nI sz) rl rf :: aI cI rl 10000 glr :: X)) (hS : va_S A s.heap H locs) (ls : Array Slot) (hl : lv_has ls 6 [(3, .int (nI x)), (0, .ref ro), (1, .ref re), (2, .int (nI ak))]), W p l e ({ frames := 3, cells := 0, slots := 0, locals := 67 } : Room) s m (([.ref ro, .ref re, .int (nI ak)] : List Value).toArray) below meth c H locs 0 0 (MQ below (va_Qv (fun (u : Nat → Int32) => ∀ a c, a < sz → c < sz → En (Rk glr ak) 0 a c (u (100 * a + c))) (fun (u : Nat → Int32) t => wq D A (oX5 ro rog rsp rqu rta rut :: aI cI rta 10000 u :: oX4 re (nI sz) rl rf :: aI cI rl 10000 glr :: X) t) A) (([.ref ro, .ref re, .int (nI ak)] : List Value).toArray) s 0 0 A) (F0 m 2 ls []) := by
    intro nfu
    induction nfu with
    | zero => intro x T hn_2; exact absurd hn_2 (Nat.not_lt_zero _)
    | succ nfu ih_2 =>
      intro x T hn_2 hx1 hT H locs hP hD hS ls hl
      refine lv_iload_n hx hb dX5_beginTable_2 rfl (lv_at hl 0 rfl) ?_
      refine lv_aload_n hx hb dX5_beginTable_3 rfl (lv_at hl 2 rfl) ?_
      refine va_get (D := D) (ci := 4) (v := .int (nI sz)) (C := RX4) (T := TX4) (N := 3) hx hb hts hiX4 hown hK hP 2 rfl rfl 0 (by decide) (hts (.fieldLink RX5 46 "LedgeLeaps$Reaches" "size" "I") (List.mem_of_getElem? (i := 1) rfl)) (fun _ h9 => h9) rfl dX5_beginTable_4 ?_
      refine lv_icmp_ge (tgt := 78) hx hb dX5_beginTable_7 (by decide) (fun c_7 => ?_) (fun c_7 => ?_)
      · exact W.vret hx hb hr (fun t9 ht9 hW9 => ⟨⟨T, rfl, fun a' c' ha' hc' => hT a' c' ha' hc' (by have h := le_of_ge (a := sz) (b := x) (by omega) (by omega) c_7; omega), by rw [ht9]; exact hP, hD⟩, hS.F ht9⟩) hS.2.2 dX5_beginTable_78
      · have hx2 : x < sz := lt_of_nge (a := sz) (b := x) (by omega) (by omega) c_7
        refine lv_iconst (v := 0) hx hb dX5_beginTable_10 (by decide) ?_
        refine lv_istore (lv' := [(4, .int 0), (3, .int (nI x)), (0, .ref ro), (1, .ref re), (2, .int (nI ak))]) hx hb dX5_beginTable_11 hl (by decide) rfl (fun ls hl => ?_)
        have loop_13 : ∀ (nfu : Nat) (y : Nat) (T2 : Nat → Int32) (hn_13 : sz - y < nfu) (hy1 : y ≤ sz) (hT2 : ∀ a' c', a' < sz → c' < sz → (a' < x ∨ (a' = x ∧ c' < y)) → En (Rk glr ak) 0 a' c' (T2 (100 * a' + c'))) (H : Heap) (locs : List Loc) (hP : va_P D vwCl (oX5 ro rog rsp rqu rta rut :: aI cI rta 10000 T2 :: oX4 re (nI sz) rl rf :: aI cI rl 10000 glr :: X) H) (hD : va_D A (oX5 ro rog rsp rqu rta rut :: aI cI rta 10000 T2 :: oX4 re (nI sz) rl rf :: aI cI rl 10000 glr :: X)) (hS : va_S A s.heap H locs) (ls : Array Slot) (hl : lv_has ls 6 [(4, .int (nI y)), (3, .int (nI x)), (0, .ref ro), (1, .ref re), (2, .int (nI ak))]), W p l e ({ frames := 3, cells := 0, slots := 0, locals := 67 } : Room) s m (([.ref ro, .ref re, .int (nI ak)] : List Value).toArray) below meth c H locs 0 0 (MQ below (va_Qv (fun (u : Nat → Int32) => ∀ a c, a < sz → c < sz → En (Rk glr ak) 0 a c (u (100 * a + c))) (fun (u : Nat → Int32) t => wq D A (oX5 ro rog rsp rqu rta rut :: aI cI rta 10000 u :: oX4 re (nI sz) rl rf :: aI cI rl 10000 glr :: X) t) A) (([.ref ro, .ref re, .int (nI ak)] : List Value).toArray) s 0 0 A) (F0 m 13 ls []) := by
          intro nfu
          induction nfu with
          | zero => intro y T2 hn_13; exact absurd hn_13 (Nat.not_lt_zero _)
          | succ nfu ih_13 =>
            intro y T2 hn_13 hy1 hT2 H locs hP hD hS ls hl
            refine lv_iload hx hb dX5_beginTable_13 (lv_at hl 0 rfl) ?_
            refine lv_aload_n hx hb dX5_beginTable_15 rfl (lv_at hl 3 rfl) ?_
            refine va_get (D := D) (ci := 4) (v := .int (nI sz)) (C := RX4) (T := TX4) (N := 3) hx hb hts hiX4 hown hK hP 2 rfl rfl 0 (by decide) (hts (.fieldLink RX5 46 "LedgeLeaps$Reaches" "size" "I") (List.mem_of_getElem? (i := 1) rfl)) (fun _ h9 => h9) rfl dX5_beginTable_16 ?_
            refine lv_icmp_ge (tgt := 72) hx hb dX5_beginTable_19 (by decide) (fun c_19 => ?_) (fun c_19 => ?_)
            · refine lv_iinc (v := (nI (x + 1))) (lv' := [(3, .int (nI (x + 1))), (4, .int (nI y)), (0, .ref ro), (1, .ref re), (2, .int (nI ak))]) hx hb dX5_beginTable_72 hl (k := 1) rfl (nI_1 x) (by decide) rfl (fun ls hl => ?_)
              refine lv_goto (tgt := 2) hx hb dX5_beginTable_75 (by decide) ?_
              exact ih_2 (x + 1) T2 (by omega) (by omega) (fun a' c' ha' hc' h9 => hT2 a' c' ha' hc' (by have h := le_of_ge (a := sz) (b := y) (by omega) (by omega) c_19; omega)) _ _ (hP) (hD) hS _ (lv_sub hl [0, 2, 3, 4] rfl)
            · have hy2 : y < sz := lt_of_nge (a := sz) (b := y) (by omega) (by omega) c_19
              refine lv_aload_n hx hb dX5_beginTable_22 rfl (lv_at hl 3 rfl) ?_
              refine lv_iload_n hx hb dX5_beginTable_23 rfl (lv_at hl 1 rfl) ?_
              refine lv_iload hx hb dX5_beginTable_24 (lv_at hl 0 rfl) ?_
              refine lv_iload_n hx hb dX5_beginTable_26 rfl (lv_at hl 4 rfl) ?_
              refine cV_i CF hK hN hA hS (cut_of 4 [2, 3, 0, 1] hP hD rfl rfl rfl) (m_come l D cI cZ cW cJ A (oX5 ro rog rsp rqu rta rut :: aI cI rta 10000 T2 :: X) re rl rf (nI sz) glr x y (nI ak) (by omega) (by omega)) (cwV 3 hts gX5_beginTable_X4_come rfl rfl rfl (by decide +kernel) ⟨Nat.le_of_ble_eq_true rfl, Nat.le_of_ble_eq_true rfl⟩) (As := [.int (nI x), .int (nI y), .int (nI ak)]) (rest := []) (ci := 4) (q0 := 0) rfl rfl rfl hl.1 rfl (Nat.le_of_ble_eq_true rfl) dX5_beginTable_27 ⟨Nat.le_of_ble_eq_true rfl, Nat.le_of_ble_eq_true rfl⟩ (fun r_27 _ H locs hq hP hD hS => ?_)
              have hq : r_27 = bI (comeF glr x y (nI ak)) := hq
              subst hq
              have hP : va_P D vwCl (oX5 ro rog rsp rqu rta rut :: aI cI rta 10000 T2 :: oX4 re (nI sz) rl rf :: aI cI rl 10000 glr :: X) H := pm_P hP 4 [2, 3, 0, 1] rfl
              have hD : va_D A (oX5 ro rog rsp rqu rta rut :: aI cI rta 10000 T2 :: oX4 re (nI sz) rl rf :: aI cI rl 10000 glr :: X) := pm_D hD 4 [2, 3, 0, 1] rfl rfl rfl
              refine lv_if_eq (tgt := 37) hx hb dX5_beginTable_30 (by decide) (fun c_30 => ?_) (fun c_30 => ?_)
              · refine lv_iconst (v := (-1)) hx hb dX5_beginTable_37 (by decide) ?_
                refine lv_istore (lv' := [(5, .int (-1)), (4, .int (nI y)), (3, .int (nI x)), (0, .ref ro), (1, .ref re), (2, .int (nI ak))]) hx hb dX5_beginTable_38 hl (by decide) rfl (fun ls hl => ?_)
                refine lv_aload_n hx hb dX5_beginTable_40 rfl (lv_at hl 3 rfl) ?_
                refine va_get (D := D) (ci := 5) (v := .ref rta) (C := RX5) (T := TX5) (N := 5) hx hb hts hiX5 hown hK hP 0 rfl rfl 3 (by decide) (hts (.fieldLink RX5 21 "LedgeLeaps$Routes" "table" "[I") (List.mem_of_getElem? (i := 2) rfl)) (fun _ h9 => h9) rfl dX5_beginTable_41 ?_
                refine lv_iload_n hx hb dX5_beginTable_44 rfl (lv_at hl 2 rfl) ?_
                refine lv_bipush (v := 100) hx hb dX5_beginTable_45 (by decide) ?_
                refine lv_imul hx hb dX5_beginTable_47 ?_
                refine top_i (y := (nI (100 * x))) (nI_100 x) ?_
                refine lv_iload hx hb dX5_beginTable_48 (lv_at hl 1 rfl) ?_
                refine lv_iadd hx hb dX5_beginTable_50 ?_
                refine top_i (y := (nI (100 * x + y))) (nI_add _ _) ?_
                refine lv_iload_n hx hb dX5_beginTable_51 rfl (lv_at hl 2 rfl) ?_
                refine lv_iload hx hb dX5_beginTable_52 (lv_at hl 1 rfl) ?_
                refine lv_icmp_ne (tgt := 61) hx hb dX5_beginTable_54 (by decide) (fun c_54 => ?_) (fun c_54 => ?_)
                · refine lv_iload hx hb dX5_beginTable_61 (lv_at hl 0 rfl) ?_
                  refine cSN_v CF hK hN hA hS (cut_of 4 [1, 0, 2, 3] hP hD rfl rfl rfl) (m_store l D cI cZ cW cJ A (oX5 ro rog rsp rqu rta rut :: oX4 re (nI sz) rl rf :: aI cI rl 10000 glr :: X) rta 10000 T2 (nI (100 * x + y)) (-1) (by decide)) ⟨va_cnB 3 hts gX5_beginTable_X8_store_n38 rfl rfl rfl (hN (RX5, 38, yX8_store) (List.mem_of_getElem? (i := 15) rfl)) (hts (.initialized RX8) (List.mem_of_getElem? (i := 14) rfl)) (by decide +kernel) ⟨Nat.le_of_ble_eq_true rfl, Nat.le_of_ble_eq_true rfl⟩, (hts (.static yX8_store) (List.mem_of_getElem? (i := 16) rfl)), trivial⟩ (As := [.ref rta, .int (nI (100 * x + y)), .int (-1)]) (rest := []) rfl hl.1 rfl (Nat.le_of_ble_eq_true rfl) dX5_beginTable_63 ⟨Nat.le_of_ble_eq_true rfl, Nat.le_of_ble_eq_true rfl⟩ (fun u_63 H locs hq hP hD hS => ?_)
                  have hq_63 : u_63 = stX 10000 T2 (nI (100 * x + y)) (-1) := hq
                  have hP : va_P D vwCl (oX5 ro rog rsp rqu rta rut :: aI cI rta 10000 u_63 :: oX4 re (nI sz) rl rf :: aI cI rl 10000 glr :: X) H := pm_P hP 4 [1, 0, 2, 3] rfl
                  have hD : va_D A (oX5 ro rog rsp rqu rta rut :: aI cI rta 10000 u_63 :: oX4 re (nI sz) rl rf :: aI cI rl 10000 glr :: X) := pm_D hD 4 [1, 0, 2, 3] rfl rfl rfl
                  have hp63 : 100 * x + y < 10000 := by omega
                  rw [hq_63, st_nI hp63 (by decide)] at hP hD
                  have hP : va_P D vwCl (oX5 ro rog rsp rqu rta rut :: aI cI rta 10000 (upd T2 (100 * x + y) (-1)) :: oX4 re (nI sz) rl rf :: aI cI rl 10000 glr :: X) H := hP
                  have hD : va_D A (oX5 ro rog rsp rqu rta rut :: aI cI rta 10000 (upd T2 (100 * x + y) (-1)) :: oX4 re (nI sz) rl rf :: aI cI rl 10000 glr :: X) := hD
                  refine lv_iinc (v := (nI (y + 1))) (lv' := [(4, .int (nI (y + 1))), (5, .int (-1)), (3, .int (nI x)), (0, .ref ro), (1, .ref re), (2, .int (nI ak))]) hx hb dX5_beginTable_66 hl (k := 1) rfl (nI_1 y) (by decide) rfl (fun ls hl => ?_)
                  refine lv_goto (tgt := 13) hx hb dX5_beginTable_69 (by decide) ?_
                  refine ih_13 (y + 1) (upd T2 (100 * x + y) (-1)) (by omega) (by omega) ?_ _ _ (hP) (hD) hS _ (lv_sub hl [0, 2, 3, 4, 5] rfl)
                  · intro a' c' ha' hc' h9
                    by_cases q : a' = x ∧ c' = y
                    · obtain ⟨rfl, rfl⟩ := q
                      rw [pk_us]; exact En.init (by rw [if_neg (fun q => c_54 (by rw [q])), if_neg (by show ¬ comeF glr a' c' (nI ak) = true; rw [bf_c c_30]; decide)])
                    · rw [tab_ne (by omega) (by omega) q]; exact hT2 a' c' ha' hc' (by omega)
                · refine lv_iconst (v := 0) hx hb dX5_beginTable_57 (by decide) ?_
                  refine lv_goto (tgt := 63) hx hb dX5_beginTable_58 (by decide) ?_
                  refine cSN_v CF hK hN hA hS (cut_of 4 [1, 0, 2, 3] hP hD rfl rfl rfl) (m_store l D cI cZ cW cJ A (oX5 ro rog rsp rqu rta rut :: oX4 re (nI sz) rl rf :: aI cI rl 10000 glr :: X) rta 10000 T2 (nI (100 * x + y)) 0 (by decide)) ⟨va_cnB 3 hts gX5_beginTable_X8_store_n38 rfl rfl rfl (hN (RX5, 38, yX8_store) (List.mem_of_getElem? (i := 15) rfl)) (hts (.initialized RX8) (List.mem_of_getElem? (i := 14) rfl)) (by decide +kernel) ⟨Nat.le_of_ble_eq_true rfl, Nat.le_of_ble_eq_true rfl⟩, (hts (.static yX8_store) (List.mem_of_getElem? (i := 16) rfl)), trivial⟩ (As := [.ref rta, .int (nI (100 * x + y)), .int 0]) (rest := []) rfl hl.1 rfl (Nat.le_of_ble_eq_true rfl) dX5_beginTable_63 ⟨Nat.le_of_ble_eq_true rfl, Nat.le_of_ble_eq_true rfl⟩ (fun u_63 H locs hq hP hD hS => ?_)
                  have hq_63 : u_63 = stX 10000 T2 (nI (100 * x + y)) 0 := hq
                  have hP : va_P D vwCl (oX5 ro rog rsp rqu rta rut :: aI cI rta 10000 u_63 :: oX4 re (nI sz) rl rf :: aI cI rl 10000 glr :: X) H := pm_P hP 4 [1, 0, 2, 3] rfl
                  have hD : va_D A (oX5 ro rog rsp rqu rta rut :: aI cI rta 10000 u_63 :: oX4 re (nI sz) rl rf :: aI cI rl 10000 glr :: X) := pm_D hD 4 [1, 0, 2, 3] rfl rfl rfl
                  have hp63 : 100 * x + y < 10000 := by omega
                  rw [hq_63, st_nI hp63 (by decide)] at hP hD
                  have hP : va_P D vwCl (oX5 ro rog rsp rqu rta rut :: aI cI rta 10000 (upd T2 (100 * x + y) 0) :: oX4 re (nI sz) rl rf :: aI cI rl 10000 glr :: X) H := hP
                  have hD : va_D A (oX5 ro rog rsp rqu rta rut :: aI cI rta 10000 (upd T2 (100 * x + y) 0) :: oX4 re (nI sz) rl rf :: aI cI rl 10000 glr :: X) := hD
                  refine lv_iinc (v := (nI (y + 1))) (lv' := [(4, .int (nI (y + 1))), (5, .int (-1)), (3, .int (nI x)), (0, .ref ro), (1, .ref re), (2, .int (nI ak))]) hx hb dX5_beginTable_66 hl (k := 1) rfl (nI_1 y) (by decide) rfl (fun ls hl => ?_)
                  refine lv_goto (tgt := 13) hx hb dX5_beginTable_69 (by decide) ?_
                  refine ih_13 (y + 1) (upd T2 (100 * x + y) 0) (by omega) (by omega) ?_ _ _ (hP) (hD) hS _ (lv_sub hl [0, 2, 3, 4, 5] rfl)
                  · intro a' c' ha' hc' h9
                    by_cases q : a' = x ∧ c' = y
                    · obtain ⟨rfl, rfl⟩ := q
                      rw [pk_us]; exact En.init (by rw [if_pos (nI_inj (by omega) (by omega) c_54)])
                    · rw [tab_ne (by omega) (by omega) q]; exact hT2 a' c' ha' hc' (by omega)
              · refine lv_iconst (v := 1) hx hb dX5_beginTable_33 (by decide) ?_
                refine lv_goto (tgt := 38) hx hb dX5_beginTable_34 (by decide) ?_
                refine lv_istore (lv' := [(5, .int 1), (4, .int (nI y)), (3, .int (nI x)), (0, .ref ro), (1, .ref re), (2, .int (nI ak))]) hx hb dX5_beginTable_38 hl (by decide) rfl (fun ls hl => ?_)
                refine lv_aload_n hx hb dX5_beginTable_40 rfl (lv_at hl 3 rfl) ?_
                refine va_get (D := D) (ci := 5) (v := .ref rta) (C := RX5) (T := TX5) (N := 5) hx hb hts hiX5 hown hK hP 0 rfl rfl 3 (by decide) (hts (.fieldLink RX5 21 "LedgeLeaps$Routes" "table" "[I") (List.mem_of_getElem? (i := 2) rfl)) (fun _ h9 => h9) rfl dX5_beginTable_41 ?_
                refine lv_iload_n hx hb dX5_beginTable_44 rfl (lv_at hl 2 rfl) ?_
                refine lv_bipush (v := 100) hx hb dX5_beginTable_45 (by decide) ?_
                refine lv_imul hx hb dX5_beginTable_47 ?_
                refine top_i (y := (nI (100 * x))) (nI_100 x) ?_
                refine lv_iload hx hb dX5_beginTable_48 (lv_at hl 1 rfl) ?_
                refine lv_iadd hx hb dX5_beginTable_50 ?_
                refine top_i (y := (nI (100 * x + y))) (nI_add _ _) ?_
                refine lv_iload_n hx hb dX5_beginTable_51 rfl (lv_at hl 2 rfl) ?_
                refine lv_iload hx hb dX5_beginTable_52 (lv_at hl 1 rfl) ?_
                refine lv_icmp_ne (tgt := 61) hx hb dX5_beginTable_54 (by decide) (fun c_54 => ?_) (fun c_54 => ?_)
                · refine lv_iload hx hb dX5_beginTable_61 (lv_at hl 0 rfl) ?_
                  refine cSN_v CF hK hN hA hS (cut_of 4 [1, 0, 2, 3] hP hD rfl rfl rfl) (m_store l D cI cZ cW cJ A (oX5 ro rog rsp rqu rta rut :: oX4 re (nI sz) rl rf :: aI cI rl 10000 glr :: X) rta 10000 T2 (nI (100 * x + y)) 1 (by decide)) ⟨va_cnB 3 hts gX5_beginTable_X8_store_n38 rfl rfl rfl (hN (RX5, 38, yX8_store) (List.mem_of_getElem? (i := 15) rfl)) (hts (.initialized RX8) (List.mem_of_getElem? (i := 14) rfl)) (by decide +kernel) ⟨Nat.le_of_ble_eq_true rfl, Nat.le_of_ble_eq_true rfl⟩, (hts (.static yX8_store) (List.mem_of_getElem? (i := 16) rfl)), trivial⟩ (As := [.ref rta, .int (nI (100 * x + y)), .int 1]) (rest := []) rfl hl.1 rfl (Nat.le_of_ble_eq_true rfl) dX5_beginTable_63 ⟨Nat.le_of_ble_eq_true rfl, Nat.le_of_ble_eq_true rfl⟩ (fun u_63 H locs hq hP hD hS => ?_)
                  have hq_63 : u_63 = stX 10000 T2 (nI (100 * x + y)) 1 := hq
                  have hP : va_P D vwCl (oX5 ro rog rsp rqu rta rut :: aI cI rta 10000 u_63 :: oX4 re (nI sz) rl rf :: aI cI rl 10000 glr :: X) H := pm_P hP 4 [1, 0, 2, 3] rfl
                  have hD : va_D A (oX5 ro rog rsp rqu rta rut :: aI cI rta 10000 u_63 :: oX4 re (nI sz) rl rf :: aI cI rl 10000 glr :: X) := pm_D hD 4 [1, 0, 2, 3] rfl rfl rfl
                  have hp63 : 100 * x + y < 10000 := by omega
                  rw [hq_63, st_nI hp63 (by decide)] at hP hD
                  have hP : va_P D vwCl (oX5 ro rog rsp rqu rta rut :: aI cI rta 10000 (upd T2 (100 * x + y) 1) :: oX4 re (nI sz) rl rf :: aI cI rl 10000 glr :: X) H := hP
                  have hD : va_D A (oX5 ro rog rsp rqu rta rut :: aI cI rta 10000 (upd T2 (100 * x + y) 1) :: oX4 re (nI sz) rl rf :: aI cI rl 10000 glr :: X) := hD
                  refine lv_iinc (v := (nI (y + 1))) (lv' := [(4, .int (nI (y + 1))), (5, .int 1), (3, .int (nI x)), (0, .ref ro), (1, .ref re), (2, .int (nI ak))]) hx hb dX5_beginTable_66 hl (k := 1) rfl (nI_1 y) (by decide) rfl (fun ls hl => ?_)
                  refine lv_goto (tgt := 13) hx hb dX5_beginTable_69 (by decide) ?_
                  refine ih_13 (y + 1) (upd T2 (100 * x + y) 1) (by omega) (by omega) ?_ _ _ (hP) (hD) hS _ (lv_sub hl [0, 2, 3, 4, 5] rfl)
                  · intro a' c' ha' hc' h9
                    by_cases q : a' = x ∧ c' = y
                    · obtain ⟨rfl, rfl⟩ := q
                      rw [pk_us]; exact En.init (by rw [if_neg (fun q => c_54 (by rw [q])), if_pos (show Rk glr ak a' c' = true from bt_c c_30)])
                    · rw [tab_ne (by omega) (by omega) q]; exact hT2 a' c' ha' hc' (by omega)
                · refine lv_iconst (v := 0) hx hb dX5_beginTable_57 (by decide) ?_
                  refine lv_goto (tgt := 63) hx hb dX5_beginTable_58 (by decide) ?_
                  refine cSN_v CF hK hN hA hS (cut_of 4 [1, 0, 2, 3] hP hD rfl rfl rfl) (m_store l D cI cZ cW cJ A (oX5 ro rog rsp rqu rta rut :: oX4 re (nI sz) rl rf :: aI cI rl 10000 glr :: X) rta 10000 T2 (nI (100 * x + y)) 0 (by decide)) ⟨va_cnB 3 hts gX5_beginTable_X8_store_n38 rfl rfl rfl (hN (RX5, 38, yX8_store) (List.mem_of_getElem? (i := 15) rfl)) (hts (.initialized RX8) (List.mem_of_getElem? (i := 14) rfl)) (by decide +kernel) ⟨Nat.le_of_ble_eq_true rfl, Nat.le_of_ble_eq_true rfl⟩, (hts (.static yX8_store) (List.mem_of_getElem? (i := 16) rfl)), trivial⟩ (As := [.ref rta, .int (nI (100 * x + y)), .int 0]) (rest := []) rfl hl.1 rfl (Nat.le_of_ble_eq_true rfl) dX5_beginTable_63 ⟨Nat.le_of_ble_eq_true rfl, Nat.le_of_ble_eq_true rfl⟩ (fun u_63 H locs hq hP hD hS => ?_)
                  have hq_63 : u_63 = stX 10000 T2 (nI (100 * x + y)) 0 := hq
                  have hP : va_P D vwCl (oX5 ro rog rsp rqu rta rut :: aI cI rta 10000 u_63 :: oX4 re (nI sz) rl rf :: aI cI rl 10000 glr :: X) H := pm_P hP 4 [1, 0, 2, 3] rfl
                  have hD : va_D A (oX5 ro rog rsp rqu rta rut :: aI cI rta 10000 u_63 :: oX4 re (nI sz) rl rf :: aI cI rl 10000 glr :: X) := pm_D hD 4 [1, 0, 2, 3] rfl rfl rfl
                  have hp63 : 100 * x + y < 10000 := by omega
                  rw [hq_63, st_nI hp63 (by decide)] at hP hD
                  have hP : va_P D vwCl (oX5 ro rog rsp rqu rta rut :: aI cI rta 10000 (upd T2 (100 * x + y) 0) :: oX4 re (nI sz) rl rf :: aI cI rl 10000 glr :: X) H := hP
                  have hD : va_D A (oX5 ro rog rsp rqu rta rut :: aI cI rta 10000 (upd T2 (100 * x + y) 0) :: oX4 re (nI sz) rl rf :: aI cI rl 10000 glr :: X) := hD
                  refine lv_iinc (v := (nI (y + 1))) (lv' := [(4, .int (nI (y + 1))), (5, .int 1), (3, .int (nI x)), (0, .ref ro), (1, .ref re), (2, .int (nI ak))]) hx hb dX5_beginTable_66 hl (k := 1) rfl (nI_1 y) (by decide) rfl (fun ls hl => ?_)
                  refine lv_goto (tgt := 13) hx hb dX5_beginTable_69 (by decide) ?_
                  refine ih_13 (y + 1) (upd T2 (100 * x + y) 0) (by omega) (by omega) ?_ _ _ (hP) (hD) hS _ (lv_sub hl [0, 2, 3, 4, 5] rfl)
                  · intro a' c' ha' hc' h9
                    by_cases q : a' = x ∧ c' = y
                    · obtain ⟨rfl, rfl⟩ := q
                      rw [pk_us]; exact En.init (by rw [if_pos (nI_inj (by omega) (by omega) c_54)])
                    · rw [tab_ne (by omega) (by omega) q]; exact hT2 a' c' ha' hc' (by omega)
        exact loop_13 _ 0 T (Nat.lt_succ_self _) (Nat.zero_le _) (fun a' c' ha' hc' h => hT a' c' ha' hc' (by omega)) _ _ hP hD hS _ (lv_sub hl [0, 1, 2, 3, 4] rfl)
  exact loop_2 _ 0 gta (Nat.lt_succ_self _) (Nat.zero_le _) (fun a' c' _ _ h => absurd h (Nat.not_lt_zero _)) _ _ hP hD hS _ (lv_sub hl [0, 1, 2, 3] rfl)
set_option maxHeartbeats 4000000 in
set_option maxRecDepth 100000 in
theorem m_allow (l : Launch) (D : va_G) (cI cZ cW cJ : ClassId) (A : Nat → Prop) (X : va_W) (ro rog rsp rqu rta : Nat) (rut : Int32) (gta : Nat → Int32) (sz ab : Nat) (R : Nat → Nat → Bool) (hsz : sz ≤ 100) (hab : ab < sz) (hT0 : ∀ a c, a < sz → c < sz → En R ab a c (gta (100 * a + c))) : Met l yX5_allowBetween wsX5_allowBetween ({ frames := 1, cells := 0, slots := 0, locals := 22 }) (va_Pc [.ref ro, .int (nI ab), .int (nI sz)] (wd D (tyL cI cZ cW cJ) A (oX5 ro rog rsp rqu rta rut :: aI cI rta 10000 gta :: X))) (va_Qv (fun (u : Nat → Int32) => ∀ a c, a < sz → c < sz → En R (ab + 1) a c (u (100 * a + c))) (fun (u : Nat → Int32) t => wq D A (oX5 ro rog rsp rqu rta rut :: aI cI rta 10000 u :: X) t) A) 0 0 A := by
  refine Met.ofW (cc := cX5_allowBetween) (maxL := 8) (ret := none) (by decide) rfl ?_
  intro p e s m args below meth c s₁ B hml hv
  obtain ⟨rfl, hsz9, hP, hK, hD, hN⟩ := hv
  have hx := B.exec
  have hb := B.bytes
  have hr := B.returns
  have hts := atoms_spec (ws := wsX5_allowBetween) B.pre
  have hown : s.vm.findClass RX5 = some m.cls := findClass_of_methodNamed B.named
  have hlocks := B.notSynchronized
  have CF : CallFix p m c cX5_allowBetween 8 s _ wsX5_allowBetween RX5 := ⟨hx, hb, hml, hown, hts⟩
  have hA : ∀ q : Nat, s.heap.size ≤ q → A q := hsz9
  have hS : va_S A s.heap s.heap [] := va_S.rf
  have hiX5 : ∀ w ∈ u_ws RX5 TX5 5, w ∈ wsX5_allowBetween := fun _ h => List.mem_cons_of_mem _ (List.mem_append_right _ (h))
  have hl := lv_entry ([.ref ro, .int (nI ab), .int (nI sz)]) (n := 8) (Nat.le_of_ble_eq_true rfl)
  rw [lg_entry_eq]
  generalize (lg_sl ([.ref ro, .int (nI ab), .int (nI sz)]) ++ List.replicate (8 - (lg_sl ([.ref ro, .int (nI ab), .int (nI sz)])).length) Slot.unset).toArray = ls at hl ⊢
  have hl : lv_has ls 8 [(0, .ref ro), (1, .int (nI ab)), (2, .int (nI sz))] := hl
  show W p l e ({ frames := 1, cells := 0, slots := 0, locals := 22 } : Room) s m (([.ref ro, .int (nI ab), .int (nI sz)] : List Value).toArray) below meth c s.heap [] 0 0 (MQ below (va_Qv (fun (u : Nat → Int32) => ∀ a c, a < sz → c < sz → En R (ab + 1) a c (u (100 * a + c))) (fun (u : Nat → Int32) t => wq D A (oX5 ro rog rsp rqu rta rut :: aI cI rta 10000 u :: X) t) A) (([.ref ro, .int (nI ab), .int (nI sz)] : List Value).toArray) s 0 0 A) (F0 m 0 ls [])
  refine lv_iconst (v := 0) hx hb dX5_allowBetween_0 (by decide) ?_
  refine lv_istore_n (lv' := [(3, .int 0), (0, .ref ro), (1, .int (nI ab)), (2, .int (nI sz))]) hx hb dX5_allowBetween_1 rfl hl (by decide) rfl (fun ls hl => ?_)
  have loop_2 : ∀ (nfu : Nat) (x : Nat) (T : Nat → Int32) (hn_2 : sz - x < nfu) (hx1 : x ≤ sz) (hT : ∀ a' c', a' < sz → c' < sz → En R (if a' < x then ab + 1 else ab) a' c' (T (100 * a' + c'))) (H : Heap) (locs : List Loc) (hP : va_P D vwCl (oX5 ro rog rsp rqu rta rut :: aI cI rta 10000 T :: X) H) (hD : va_D A (oX5 ro rog rsp rqu rta rut :: aI cI rta 10000 T :: X)) (hS : va_S A s.heap H locs) (ls : Array Slot) (hl : lv_has ls 8 [(3, .int (nI x)), (0, .ref ro), (1, .int (nI ab)), (2, .int (nI sz))]), W p l e ({ frames := 1, cells := 0, slots := 0, locals := 22 } : Room) s m (([.ref ro, .int (nI ab), .int (nI sz)] : List Value).toArray) below meth c H locs 0 0 (MQ below (va_Qv (fun (u : Nat → Int32) => ∀ a c, a < sz → c < sz → En R (ab + 1) a c (u (100 * a + c))) (fun (u : Nat → Int32) t => wq D A (oX5 ro rog rsp rqu rta rut :: aI cI rta 10000 u :: X) t) A) (([.ref ro, .int (nI ab), .int (nI sz)] : List Value).toArray) s 0 0 A) (F0 m 2 ls []) := by
    intro nfu
    induction nfu with
    | zero => intro x T hn_2; exact absurd hn_2 (Nat.not_lt_zero _)
    | succ nfu ih_2 =>
      intro x T hn_2 hx1 hT H locs hP hD hS ls hl
      refine lv_iload_n hx hb dX5_allowBetween_2 rfl (lv_at hl 0 rfl) ?_
      refine lv_iload_n hx hb dX5_allowBetween_3 rfl (lv_at hl 3 rfl) ?_
      refine lv_icmp_ge (tgt := 122) hx hb dX5_allowBetween_4 (by decide) (fun c_4 => ?_) (fun c_4 => ?_)
      · exact W.vret hx hb hr (fun t9 ht9 hW9 => ⟨⟨T, rfl, fun a' c' ha' hc' => by have h9 := hT a' c' ha' hc'; rw [if_pos (by have h := le_of_ge (a := sz) (b := x) (by omega) (by omega) c_4; omega)] at h9; exact h9, by rw [ht9]; exact hP, hD⟩, hS.F ht9⟩) hS.2.2 dX5_allowBetween_122
      · have hx2 : x < sz := lt_of_nge (a := sz) (b := x) (by omega) (by omega) c_4
        refine lv_aload_n hx hb dX5_allowBetween_7 rfl (lv_at hl 1 rfl) ?_
        refine va_get (D := D) (ci := 5) (v := .ref rta) (C := RX5) (T := TX5) (N := 5) hx hb hts hiX5 hown hK hP 0 rfl rfl 3 (by decide) (hts (.fieldLink RX5 21 "LedgeLeaps$Routes" "table" "[I") (List.mem_of_getElem? (i := 1) rfl)) (fun _ h9 => h9) rfl dX5_allowBetween_8 ?_
        refine lv_iload_n hx hb dX5_allowBetween_11 rfl (lv_at hl 0 rfl) ?_
        refine lv_bipush (v := 100) hx hb dX5_allowBetween_12 (by decide) ?_
        refine lv_imul hx hb dX5_allowBetween_14 ?_
        refine top_i (y := (nI (100 * x))) (nI_100 x) ?_
        refine lv_iload_n hx hb dX5_allowBetween_15 rfl (lv_at hl 2 rfl) ?_
        refine lv_iadd hx hb dX5_allowBetween_16 ?_
        refine top_i (y := (nI (100 * x + ab))) (nI_add _ _) ?_
        refine cSN_i CF hK hN hA hS (cut_of 2 [1, 0] hP hD rfl rfl rfl) (m_at l D cI cZ cW cJ A (oX5 ro rog rsp rqu rta rut :: X) rta 10000 T (nI (100 * x + ab)) (by decide)) ⟨va_cnB 2 hts gX5_allowBetween_X8_at_n34 rfl rfl rfl (hN (RX5, 34, yX8_at) (List.mem_of_getElem? (i := 14) rfl)) (hts (.initialized RX8) (List.mem_of_getElem? (i := 3) rfl)) (by decide +kernel) ⟨Nat.le_of_ble_eq_true rfl, Nat.le_of_ble_eq_true rfl⟩, (hts (.static yX8_at) (List.mem_of_getElem? (i := 2) rfl)), trivial⟩ (As := [.ref rta, .int (nI (100 * x + ab))]) (rest := []) rfl hl.1 rfl (Nat.le_of_ble_eq_true rfl) dX5_allowBetween_17 ⟨Nat.le_of_ble_eq_true rfl, Nat.le_of_ble_eq_true rfl⟩ (fun r_17 _ H locs hq hP hD hS => ?_)
        have hq : r_17 = atX 10000 T (nI (100 * x + ab)) := hq
        subst hq
        have hP : va_P D vwCl (oX5 ro rog rsp rqu rta rut :: aI cI rta 10000 T :: X) H := pm_P hP 2 [1, 0] rfl
        have hD : va_D A (oX5 ro rog rsp rqu rta rut :: aI cI rta 10000 T :: X) := pm_D hD 2 [1, 0] rfl rfl rfl
        refine top_i (y := (T (100 * x + ab))) (at_nI (show 100 * x + ab < 10000 by omega) (by decide)) ?_
        refine lv_istore (lv' := [(4, .int (T (100 * x + ab))), (3, .int (nI x)), (0, .ref ro), (1, .int (nI ab)), (2, .int (nI sz))]) hx hb dX5_allowBetween_20 hl (by decide) rfl (fun ls hl => ?_)
        have hf0 : En R ab x ab (T (100 * x + ab)) := by
          have h9 := hT x ab hx2 hab
          rw [if_neg (by omega)] at h9; exact h9
        refine lv_iconst (v := 0) hx hb dX5_allowBetween_22 (by decide) ?_
        refine lv_istore (lv' := [(5, .int 0), (4, .int (T (100 * x + ab))), (3, .int (nI x)), (0, .ref ro), (1, .int (nI ab)), (2, .int (nI sz))]) hx hb dX5_allowBetween_23 hl (by decide) rfl (fun ls hl => ?_)
        have loop_25 : ∀ (nfu : Nat) (y : Nat) (T2 : Nat → Int32) (f : Int32) (hn_25 : sz - y < nfu) (hy1 : y ≤ sz) (hT2 : ∀ a' c', a' < sz → c' < sz → En R (if a' < x ∨ a' = x ∧ c' < y then ab + 1 else ab) a' c' (T2 (100 * a' + c'))) (hf : En R ab x ab f) (H : Heap) (locs : List Loc) (hP : va_P D vwCl (oX5 ro rog rsp rqu rta rut :: aI cI rta 10000 T2 :: X) H) (hD : va_D A (oX5 ro rog rsp rqu rta rut :: aI cI rta 10000 T2 :: X)) (hS : va_S A s.heap H locs) (ls : Array Slot) (hl : lv_has ls 8 [(5, .int (nI y)), (4, .int f), (3, .int (nI x)), (0, .ref ro), (1, .int (nI ab)), (2, .int (nI sz))]), W p l e ({ frames := 1, cells := 0, slots := 0, locals := 22 } : Room) s m (([.ref ro, .int (nI ab), .int (nI sz)] : List Value).toArray) below meth c H locs 0 0 (MQ below (va_Qv (fun (u : Nat → Int32) => ∀ a c, a < sz → c < sz → En R (ab + 1) a c (u (100 * a + c))) (fun (u : Nat → Int32) t => wq D A (oX5 ro rog rsp rqu rta rut :: aI cI rta 10000 u :: X) t) A) (([.ref ro, .int (nI ab), .int (nI sz)] : List Value).toArray) s 0 0 A) (F0 m 25 ls []) := by
          intro nfu
          induction nfu with
          | zero => intro y T2 f hn_25; exact absurd hn_25 (Nat.not_lt_zero _)
          | succ nfu ih_25 =>
            intro y T2 f hn_25 hy1 hT2 hf H locs hP hD hS ls hl
            refine lv_iload hx hb dX5_allowBetween_25 (lv_at hl 0 rfl) ?_
            refine lv_iload_n hx hb dX5_allowBetween_27 rfl (lv_at hl 5 rfl) ?_
            refine lv_icmp_ge (tgt := 116) hx hb dX5_allowBetween_28 (by decide) (fun c_28 => ?_) (fun c_28 => ?_)
            · refine lv_iinc (v := (nI (x + 1))) (lv' := [(3, .int (nI (x + 1))), (5, .int (nI y)), (4, .int f), (0, .ref ro), (1, .int (nI ab)), (2, .int (nI sz))]) hx hb dX5_allowBetween_116 hl (k := 2) rfl (nI_1 x) (by decide) rfl (fun ls hl => ?_)
              refine lv_goto (tgt := 2) hx hb dX5_allowBetween_119 (by decide) ?_
              refine ih_2 (x + 1) T2 (by omega) (by omega) ?_ _ _ (hP) (hD) hS _ (lv_sub hl [0, 3, 4, 5] rfl)
              · intro a' c' ha' hc'
                have hy9 := le_of_ge (a := sz) (b := y) (by omega) (by omega) c_28
                have h9 := hT2 a' c' ha' hc'
                by_cases z : a' < x + 1
                · rw [if_pos (by omega)] at h9; rw [if_pos z]; exact h9
                · rw [if_neg (by omega)] at h9; rw [if_neg z]; exact h9
            · refine lv_iload hx hb dX5_allowBetween_31 (lv_at hl 1 rfl) ?_
              refine lv_iconst (v := (-1)) hx hb dX5_allowBetween_33 (by decide) ?_
              refine lv_icmp_eq (tgt := 116) hx hb dX5_allowBetween_34 (by decide) (fun c_34 => ?_) (fun c_34 => ?_)
              · refine lv_iinc (v := (nI (x + 1))) (lv' := [(3, .int (nI (x + 1))), (5, .int (nI y)), (4, .int f), (0, .ref ro), (1, .int (nI ab)), (2, .int (nI sz))]) hx hb dX5_allowBetween_116 hl (k := 2) rfl (nI_1 x) (by decide) rfl (fun ls hl => ?_)
                refine lv_goto (tgt := 2) hx hb dX5_allowBetween_119 (by decide) ?_
                refine ih_2 (x + 1) T2 (by omega) (by omega) ?_ _ _ (hP) (hD) hS _ (lv_sub hl [0, 3, 4, 5] rfl)
                · intro a' c' ha' hc'
                  rcases Nat.lt_trichotomy a' x with q | q | q
                  · have h9 := hT2 a' c' ha' hc'
                    rw [if_pos (Or.inl q)] at h9
                    rw [if_pos (by omega)]; exact h9
                  · subst q
                    rw [if_pos (by omega)]
                    have h9 := hT2 a' c' ha' hc'
                    by_cases z : c' < y
                    · rw [if_pos (Or.inr ⟨rfl, z⟩)] at h9; exact h9
                    · rw [if_neg (by omega)] at h9; exact En.none (by omega) hf c_34 h9
                  · have h9 := hT2 a' c' ha' hc'
                    rw [if_neg (by omega)] at h9
                    rw [if_neg (by omega)]; exact h9
              · have hy2 : y < sz := lt_of_nge (a := sz) (b := y) (by omega) (by omega) c_28
                have hs2 : En R ab ab y (T2 (100 * ab + y)) := by
                  have h9 := hT2 ab y hab hy2
                  by_cases z : ab < x ∨ ab = x ∧ y < y
                  · rw [if_pos z] at h9; exact En.rowb.mpr h9
                  · rw [if_neg z] at h9; exact h9
                have hk2 : En R ab x y (T2 (100 * x + y)) := by
                  have h9 := hT2 x y hx2 hy2
                  rw [if_neg (by omega)] at h9; exact h9
                refine lv_aload_n hx hb dX5_allowBetween_37 rfl (lv_at hl 3 rfl) ?_
                refine va_get (D := D) (ci := 5) (v := .ref rta) (C := RX5) (T := TX5) (N := 5) hx hb hts hiX5 hown hK hP 0 rfl rfl 3 (by decide) (hts (.fieldLink RX5 21 "LedgeLeaps$Routes" "table" "[I") (List.mem_of_getElem? (i := 1) rfl)) (fun _ h9 => h9) rfl dX5_allowBetween_38 ?_
                refine lv_iload_n hx hb dX5_allowBetween_41 rfl (lv_at hl 4 rfl) ?_
                refine lv_bipush (v := 100) hx hb dX5_allowBetween_42 (by decide) ?_
                refine lv_imul hx hb dX5_allowBetween_44 ?_
                refine top_i (y := (nI (100 * ab))) (nI_100 ab) ?_
                refine lv_iload hx hb dX5_allowBetween_45 (lv_at hl 0 rfl) ?_
                refine lv_iadd hx hb dX5_allowBetween_47 ?_
                refine top_i (y := (nI (100 * ab + y))) (nI_add _ _) ?_
                refine cSN_i CF hK hN hA hS (cut_of 2 [1, 0] hP hD rfl rfl rfl) (m_at l D cI cZ cW cJ A (oX5 ro rog rsp rqu rta rut :: X) rta 10000 T2 (nI (100 * ab + y)) (by decide)) ⟨va_cnB 2 hts gX5_allowBetween_X8_at_n34 rfl rfl rfl (hN (RX5, 34, yX8_at) (List.mem_of_getElem? (i := 14) rfl)) (hts (.initialized RX8) (List.mem_of_getElem? (i := 3) rfl)) (by decide +kernel) ⟨Nat.le_of_ble_eq_true rfl, Nat.le_of_ble_eq_true rfl⟩, (hts (.static yX8_at) (List.mem_of_getElem? (i := 2) rfl)), trivial⟩ (As := [.ref rta, .int (nI (100 * ab + y))]) (rest := []) rfl hl.1 rfl (Nat.le_of_ble_eq_true rfl) dX5_allowBetween_48 ⟨Nat.le_of_ble_eq_true rfl, Nat.le_of_ble_eq_true rfl⟩ (fun r_48 _ H locs hq hP hD hS => ?_)
                have hq : r_48 = atX 10000 T2 (nI (100 * ab + y)) := hq
                subst hq
                have hP : va_P D vwCl (oX5 ro rog rsp rqu rta rut :: aI cI rta 10000 T2 :: X) H := pm_P hP 2 [1, 0] rfl
                have hD : va_D A (oX5 ro rog rsp rqu rta rut :: aI cI rta 10000 T2 :: X) := pm_D hD 2 [1, 0] rfl rfl rfl
                refine top_i (y := (T2 (100 * ab + y))) (at_nI (show 100 * ab + y < 10000 by omega) (by decide)) ?_
                refine lv_istore (lv' := [(6, .int (T2 (100 * ab + y))), (5, .int (nI y)), (4, .int f), (3, .int (nI x)), (0, .ref ro), (1, .int (nI ab)), (2, .int (nI sz))]) hx hb dX5_allowBetween_51 hl (by decide) rfl (fun ls hl => ?_)
                refine lv_aload_n hx hb dX5_allowBetween_53 rfl (lv_at hl 4 rfl) ?_
                refine va_get (D := D) (ci := 5) (v := .ref rta) (C := RX5) (T := TX5) (N := 5) hx hb hts hiX5 hown hK hP 0 rfl rfl 3 (by decide) (hts (.fieldLink RX5 21 "LedgeLeaps$Routes" "table" "[I") (List.mem_of_getElem? (i := 1) rfl)) (fun _ h9 => h9) rfl dX5_allowBetween_54 ?_
                refine lv_iload_n hx hb dX5_allowBetween_57 rfl (lv_at hl 3 rfl) ?_
                refine lv_bipush (v := 100) hx hb dX5_allowBetween_58 (by decide) ?_
                refine lv_imul hx hb dX5_allowBetween_60 ?_
                refine top_i (y := (nI (100 * x))) (nI_100 x) ?_
                refine lv_iload hx hb dX5_allowBetween_61 (lv_at hl 1 rfl) ?_
                refine lv_iadd hx hb dX5_allowBetween_63 ?_
                refine top_i (y := (nI (100 * x + y))) (nI_add _ _) ?_
                refine cSN_i CF hK hN hA hS (cut_of 2 [1, 0] hP hD rfl rfl rfl) (m_at l D cI cZ cW cJ A (oX5 ro rog rsp rqu rta rut :: X) rta 10000 T2 (nI (100 * x + y)) (by decide)) ⟨va_cnB 2 hts gX5_allowBetween_X8_at_n34 rfl rfl rfl (hN (RX5, 34, yX8_at) (List.mem_of_getElem? (i := 14) rfl)) (hts (.initialized RX8) (List.mem_of_getElem? (i := 3) rfl)) (by decide +kernel) ⟨Nat.le_of_ble_eq_true rfl, Nat.le_of_ble_eq_true rfl⟩, (hts (.static yX8_at) (List.mem_of_getElem? (i := 2) rfl)), trivial⟩ (As := [.ref rta, .int (nI (100 * x + y))]) (rest := []) rfl hl.1 rfl (Nat.le_of_ble_eq_true rfl) dX5_allowBetween_64 ⟨Nat.le_of_ble_eq_true rfl, Nat.le_of_ble_eq_true rfl⟩ (fun r_64 _ H locs hq hP hD hS => ?_)
                have hq : r_64 = atX 10000 T2 (nI (100 * x + y)) := hq
                subst hq
                have hP : va_P D vwCl (oX5 ro rog rsp rqu rta rut :: aI cI rta 10000 T2 :: X) H := pm_P hP 2 [1, 0] rfl
                have hD : va_D A (oX5 ro rog rsp rqu rta rut :: aI cI rta 10000 T2 :: X) := pm_D hD 2 [1, 0] rfl rfl rfl
                refine top_i (y := (T2 (100 * x + y))) (at_nI (show 100 * x + y < 10000 by omega) (by decide)) ?_
                refine lv_istore (lv' := [(7, .int (T2 (100 * x + y))), (6, .int (T2 (100 * ab + y))), (5, .int (nI y)), (4, .int f), (3, .int (nI x)), (0, .ref ro), (1, .int (nI ab)), (2, .int (nI sz))]) hx hb dX5_allowBetween_67 hl (by decide) rfl (fun ls hl => ?_)
                refine lv_iload hx hb dX5_allowBetween_69 (lv_at hl 1 rfl) ?_
                refine lv_iconst (v := (-1)) hx hb dX5_allowBetween_71 (by decide) ?_
                refine lv_icmp_eq (tgt := 110) hx hb dX5_allowBetween_72 (by decide) (fun c_72 => ?_) (fun c_72 => ?_)
                · refine lv_iinc (v := (nI (y + 1))) (lv' := [(5, .int (nI (y + 1))), (7, .int (T2 (100 * x + y))), (6, .int (T2 (100 * ab + y))), (4, .int f), (3, .int (nI x)), (0, .ref ro), (1, .int (nI ab)), (2, .int (nI sz))]) hx hb dX5_allowBetween_110 hl (k := 2) rfl (nI_1 y) (by decide) rfl (fun ls hl => ?_)
                  refine lv_goto (tgt := 25) hx hb dX5_allowBetween_113 (by decide) ?_
                  refine ih_25 (y + 1) T2 f (by omega) (by omega) ?_ (hf) _ _ (hP) (hD) hS _ (lv_sub hl [0, 3, 4, 5, 6, 7] rfl)
                  · intro a' c' ha' hc'
                    by_cases z : a' = x ∧ c' = y
                    · obtain ⟨rfl, rfl⟩ := z
                      rw [if_pos (Or.inr ⟨rfl, Nat.lt_succ_self _⟩)]
                      exact En.step (by omega) hf hs2 hk2 c_34 (Or.inl ⟨rfl, Or.inl c_72⟩)
                    · have h9 := hT2 a' c' ha' hc'
                      skip
                      by_cases z2 : a' < x ∨ a' = x ∧ c' < y
                      · rw [if_pos z2] at h9; rw [if_pos (by omega)]; exact h9
                      · rw [if_neg z2] at h9; rw [if_neg (by omega)]; exact h9
                · refine lv_iload hx hb dX5_allowBetween_75 (lv_at hl 0 rfl) ?_
                  refine lv_iconst (v := (-1)) hx hb dX5_allowBetween_77 (by decide) ?_
                  refine lv_icmp_eq (tgt := 91) hx hb dX5_allowBetween_78 (by decide) (fun c_78 => ?_) (fun c_78 => ?_)
                  · refine lv_aload_n hx hb dX5_allowBetween_91 rfl (lv_at hl 5 rfl) ?_
                    refine va_get (D := D) (ci := 5) (v := .ref rta) (C := RX5) (T := TX5) (N := 5) hx hb hts hiX5 hown hK hP 0 rfl rfl 3 (by decide) (hts (.fieldLink RX5 21 "LedgeLeaps$Routes" "table" "[I") (List.mem_of_getElem? (i := 1) rfl)) (fun _ h9 => h9) rfl dX5_allowBetween_92 ?_
                    refine lv_iload_n hx hb dX5_allowBetween_95 rfl (lv_at hl 4 rfl) ?_
                    refine lv_bipush (v := 100) hx hb dX5_allowBetween_96 (by decide) ?_
                    refine lv_imul hx hb dX5_allowBetween_98 ?_
                    refine top_i (y := (nI (100 * x))) (nI_100 x) ?_
                    refine lv_iload hx hb dX5_allowBetween_99 (lv_at hl 2 rfl) ?_
                    refine lv_iadd hx hb dX5_allowBetween_101 ?_
                    refine top_i (y := (nI (100 * x + y))) (nI_add _ _) ?_
                    refine lv_iload hx hb dX5_allowBetween_102 (lv_at hl 3 rfl) ?_
                    refine lv_iload hx hb dX5_allowBetween_104 (lv_at hl 1 rfl) ?_
                    refine lv_iadd hx hb dX5_allowBetween_106 ?_
                    refine cSN_v CF hK hN hA hS (cut_of 2 [1, 0] hP hD rfl rfl rfl) (m_store l D cI cZ cW cJ A (oX5 ro rog rsp rqu rta rut :: X) rta 10000 T2 (nI (100 * x + y)) (f + (T2 (100 * ab + y))) (by decide)) ⟨va_cnB 3 hts gX5_allowBetween_X8_store_n38 rfl rfl rfl (hN (RX5, 38, yX8_store) (List.mem_of_getElem? (i := 15) rfl)) (hts (.initialized RX8) (List.mem_of_getElem? (i := 3) rfl)) (by decide +kernel) ⟨Nat.le_of_ble_eq_true rfl, Nat.le_of_ble_eq_true rfl⟩, (hts (.static yX8_store) (List.mem_of_getElem? (i := 5) rfl)), trivial⟩ (As := [.ref rta, .int (nI (100 * x + y)), .int (f + (T2 (100 * ab + y)))]) (rest := []) rfl hl.1 rfl (Nat.le_of_ble_eq_true rfl) dX5_allowBetween_107 ⟨Nat.le_of_ble_eq_true rfl, Nat.le_of_ble_eq_true rfl⟩ (fun u_107 H locs hq hP hD hS => ?_)
                    have hq_107 : u_107 = stX 10000 T2 (nI (100 * x + y)) (f + (T2 (100 * ab + y))) := hq
                    have hP : va_P D vwCl (oX5 ro rog rsp rqu rta rut :: aI cI rta 10000 u_107 :: X) H := pm_P hP 2 [1, 0] rfl
                    have hD : va_D A (oX5 ro rog rsp rqu rta rut :: aI cI rta 10000 u_107 :: X) := pm_D hD 2 [1, 0] rfl rfl rfl
                    have hp107 : 100 * x + y < 10000 := by omega
                    rw [hq_107, st_nI hp107 (by decide)] at hP hD
                    have hP : va_P D vwCl (oX5 ro rog rsp rqu rta rut :: aI cI rta 10000 (upd T2 (100 * x + y) (f + T2 (100 * ab + y))) :: X) H := hP
                    have hD : va_D A (oX5 ro rog rsp rqu rta rut :: aI cI rta 10000 (upd T2 (100 * x + y) (f + T2 (100 * ab + y))) :: X) := hD
                    refine lv_iinc (v := (nI (y + 1))) (lv' := [(5, .int (nI (y + 1))), (7, .int (T2 (100 * x + y))), (6, .int (T2 (100 * ab + y))), (4, .int f), (3, .int (nI x)), (0, .ref ro), (1, .int (nI ab)), (2, .int (nI sz))]) hx hb dX5_allowBetween_110 hl (k := 2) rfl (nI_1 y) (by decide) rfl (fun ls hl => ?_)
                    refine lv_goto (tgt := 25) hx hb dX5_allowBetween_113 (by decide) ?_
                    refine ih_25 (y + 1) (upd T2 (100 * x + y) (f + T2 (100 * ab + y))) f (by omega) (by omega) ?_ (hf) _ _ (hP) (hD) hS _ (lv_sub hl [0, 3, 4, 5, 6, 7] rfl)
                    · intro a' c' ha' hc'
                      by_cases z : a' = x ∧ c' = y
                      · obtain ⟨rfl, rfl⟩ := z
                        rw [if_pos (Or.inr ⟨rfl, Nat.lt_succ_self _⟩)]
                        rw [pk_us]; exact En.step (by omega) hf hs2 hk2 c_34 (Or.inr ⟨rfl, c_72, Or.inl c_78⟩)
                      · have h9 := hT2 a' c' ha' hc'
                        rw [tab_ne (by omega) (by omega) z]
                        by_cases z2 : a' < x ∨ a' = x ∧ c' < y
                        · rw [if_pos z2] at h9; rw [if_pos (by omega)]; exact h9
                        · rw [if_neg z2] at h9; rw [if_neg (by omega)]; exact h9
                  · refine lv_iload hx hb dX5_allowBetween_81 (lv_at hl 3 rfl) ?_
                    refine lv_iload hx hb dX5_allowBetween_83 (lv_at hl 1 rfl) ?_
                    refine lv_iadd hx hb dX5_allowBetween_85 ?_
                    refine lv_iload hx hb dX5_allowBetween_86 (lv_at hl 0 rfl) ?_
                    refine lv_icmp_ge (tgt := 110) hx hb dX5_allowBetween_88 (by decide) (fun c_88 => ?_) (fun c_88 => ?_)
                    · refine lv_iinc (v := (nI (y + 1))) (lv' := [(5, .int (nI (y + 1))), (7, .int (T2 (100 * x + y))), (6, .int (T2 (100 * ab + y))), (4, .int f), (3, .int (nI x)), (0, .ref ro), (1, .int (nI ab)), (2, .int (nI sz))]) hx hb dX5_allowBetween_110 hl (k := 2) rfl (nI_1 y) (by decide) rfl (fun ls hl => ?_)
                      refine lv_goto (tgt := 25) hx hb dX5_allowBetween_113 (by decide) ?_
                      refine ih_25 (y + 1) T2 f (by omega) (by omega) ?_ (hf) _ _ (hP) (hD) hS _ (lv_sub hl [0, 3, 4, 5, 6, 7] rfl)
                      · intro a' c' ha' hc'
                        by_cases z : a' = x ∧ c' = y
                        · obtain ⟨rfl, rfl⟩ := z
                          rw [if_pos (Or.inr ⟨rfl, Nat.lt_succ_self _⟩)]
                          exact En.step (by omega) hf hs2 hk2 c_34 (Or.inl ⟨rfl, Or.inr ⟨c_78, c_88⟩⟩)
                        · have h9 := hT2 a' c' ha' hc'
                          skip
                          by_cases z2 : a' < x ∨ a' = x ∧ c' < y
                          · rw [if_pos z2] at h9; rw [if_pos (by omega)]; exact h9
                          · rw [if_neg z2] at h9; rw [if_neg (by omega)]; exact h9
                    · refine lv_aload_n hx hb dX5_allowBetween_91 rfl (lv_at hl 5 rfl) ?_
                      refine va_get (D := D) (ci := 5) (v := .ref rta) (C := RX5) (T := TX5) (N := 5) hx hb hts hiX5 hown hK hP 0 rfl rfl 3 (by decide) (hts (.fieldLink RX5 21 "LedgeLeaps$Routes" "table" "[I") (List.mem_of_getElem? (i := 1) rfl)) (fun _ h9 => h9) rfl dX5_allowBetween_92 ?_
                      refine lv_iload_n hx hb dX5_allowBetween_95 rfl (lv_at hl 4 rfl) ?_
                      refine lv_bipush (v := 100) hx hb dX5_allowBetween_96 (by decide) ?_
                      refine lv_imul hx hb dX5_allowBetween_98 ?_
                      refine top_i (y := (nI (100 * x))) (nI_100 x) ?_
                      refine lv_iload hx hb dX5_allowBetween_99 (lv_at hl 2 rfl) ?_
                      refine lv_iadd hx hb dX5_allowBetween_101 ?_
                      refine top_i (y := (nI (100 * x + y))) (nI_add _ _) ?_
                      refine lv_iload hx hb dX5_allowBetween_102 (lv_at hl 3 rfl) ?_
                      refine lv_iload hx hb dX5_allowBetween_104 (lv_at hl 1 rfl) ?_
                      refine lv_iadd hx hb dX5_allowBetween_106 ?_
                      refine cSN_v CF hK hN hA hS (cut_of 2 [1, 0] hP hD rfl rfl rfl) (m_store l D cI cZ cW cJ A (oX5 ro rog rsp rqu rta rut :: X) rta 10000 T2 (nI (100 * x + y)) (f + (T2 (100 * ab + y))) (by decide)) ⟨va_cnB 3 hts gX5_allowBetween_X8_store_n38 rfl rfl rfl (hN (RX5, 38, yX8_store) (List.mem_of_getElem? (i := 15) rfl)) (hts (.initialized RX8) (List.mem_of_getElem? (i := 3) rfl)) (by decide +kernel) ⟨Nat.le_of_ble_eq_true rfl, Nat.le_of_ble_eq_true rfl⟩, (hts (.static yX8_store) (List.mem_of_getElem? (i := 5) rfl)), trivial⟩ (As := [.ref rta, .int (nI (100 * x + y)), .int (f + (T2 (100 * ab + y)))]) (rest := []) rfl hl.1 rfl (Nat.le_of_ble_eq_true rfl) dX5_allowBetween_107 ⟨Nat.le_of_ble_eq_true rfl, Nat.le_of_ble_eq_true rfl⟩ (fun u_107 H locs hq hP hD hS => ?_)
                      have hq_107 : u_107 = stX 10000 T2 (nI (100 * x + y)) (f + (T2 (100 * ab + y))) := hq
                      have hP : va_P D vwCl (oX5 ro rog rsp rqu rta rut :: aI cI rta 10000 u_107 :: X) H := pm_P hP 2 [1, 0] rfl
                      have hD : va_D A (oX5 ro rog rsp rqu rta rut :: aI cI rta 10000 u_107 :: X) := pm_D hD 2 [1, 0] rfl rfl rfl
                      have hp107 : 100 * x + y < 10000 := by omega
                      rw [hq_107, st_nI hp107 (by decide)] at hP hD
                      have hP : va_P D vwCl (oX5 ro rog rsp rqu rta rut :: aI cI rta 10000 (upd T2 (100 * x + y) (f + T2 (100 * ab + y))) :: X) H := hP
                      have hD : va_D A (oX5 ro rog rsp rqu rta rut :: aI cI rta 10000 (upd T2 (100 * x + y) (f + T2 (100 * ab + y))) :: X) := hD
                      refine lv_iinc (v := (nI (y + 1))) (lv' := [(5, .int (nI (y + 1))), (7, .int (T2 (100 * x + y))), (6, .int (T2 (100 * ab + y))), (4, .int f), (3, .int (nI x)), (0, .ref ro), (1, .int (nI ab)), (2, .int (nI sz))]) hx hb dX5_allowBetween_110 hl (k := 2) rfl (nI_1 y) (by decide) rfl (fun ls hl => ?_)
                      refine lv_goto (tgt := 25) hx hb dX5_allowBetween_113 (by decide) ?_
                      refine ih_25 (y + 1) (upd T2 (100 * x + y) (f + T2 (100 * ab + y))) f (by omega) (by omega) ?_ (hf) _ _ (hP) (hD) hS _ (lv_sub hl [0, 3, 4, 5, 6, 7] rfl)
                      · intro a' c' ha' hc'
                        by_cases z : a' = x ∧ c' = y
                        · obtain ⟨rfl, rfl⟩ := z
                          rw [if_pos (Or.inr ⟨rfl, Nat.lt_succ_self _⟩)]
                          rw [pk_us]; exact En.step (by omega) hf hs2 hk2 c_34 (Or.inr ⟨rfl, c_72, Or.inr ⟨c_78, c_88⟩⟩)
                        · have h9 := hT2 a' c' ha' hc'
                          rw [tab_ne (by omega) (by omega) z]
                          by_cases z2 : a' < x ∨ a' = x ∧ c' < y
                          · rw [if_pos z2] at h9; rw [if_pos (by omega)]; exact h9
                          · rw [if_neg z2] at h9; rw [if_neg (by omega)]; exact h9
        exact loop_25 _ 0 T (T (100 * x + ab)) (Nat.lt_succ_self _) (Nat.zero_le _) (fun a' c' ha' hc' => by have h9 := hT a' c' ha' hc'; by_cases z : a' < x; (rw [if_pos z] at h9; rw [if_pos (Or.inl z)]; exact h9); (rw [if_neg z] at h9; rw [if_neg (by omega)]; exact h9)) (hf0) _ _ hP hD hS _ (lv_sub hl [0, 1, 2, 3, 4, 5] rfl)
  exact loop_2 _ 0 gta (Nat.lt_succ_self _) (Nat.zero_le _) (fun a' c' ha' hc' => by rw [if_neg (Nat.not_lt_zero _)]; exact hT0 a' c' ha' hc') _ _ hP hD hS _ (lv_sub hl [0, 1, 2, 3] rfl)
set_option maxHeartbeats 4000000 in
set_option maxRecDepth 100000 in
theorem m_makeTable (l : Launch) (D : va_G) (cI cZ cW cJ : ClassId) (A : Nat → Prop) (X : va_W) (ro rog rsp rqu rta : Nat) (rut : Int32) (gta : Nat → Int32) (re rl rf : Nat) (glr : Nat → Int32) (sz ak : Nat) (hsz : sz ≤ 100) (hak : ak < 4) (htb : ∀ k, k < 4 → rut = nI k → ∀ a c, a < sz → c < sz → En (Rk glr k) sz a c (gta (100 * a + c))) : Met l yX5_makeTable wsX5_makeTable ({ frames := 4, cells := 0, slots := 0, locals := 92 }) (va_Pc [.ref ro, .ref re, .int (nI ak)] (wd D (tyL cI cZ cW cJ) A (oX5 ro rog rsp rqu rta rut :: aI cI rta 10000 gta :: oX4 re (nI sz) rl rf :: aI cI rl 10000 glr :: X))) (va_Qv (fun (u : Nat → Int32) => ∀ a c, a < sz → c < sz → En (Rk glr ak) sz a c (u (100 * a + c))) (fun (u : Nat → Int32) t => wq D A (oX5 ro rog rsp rqu rta (nI ak) :: aI cI rta 10000 u :: oX4 re (nI sz) rl rf :: aI cI rl 10000 glr :: X) t) A) 0 0 A := by
  refine Met.ofW (cc := cX5_makeTable) (maxL := 4) (ret := none) (by decide) rfl ?_
  intro p e s m args below meth c s₁ B hml hv
  obtain ⟨rfl, hsz9, hP, hK, hD, hN⟩ := hv
  have hx := B.exec
  have hb := B.bytes
  have hr := B.returns
  have hts := atoms_spec (ws := wsX5_makeTable) B.pre
  have hown : s.vm.findClass RX5 = some m.cls := findClass_of_methodNamed B.named
  have hlocks := B.notSynchronized
  have CF : CallFix p m c cX5_makeTable 4 s _ wsX5_makeTable RX5 := ⟨hx, hb, hml, hown, hts⟩
  have hA : ∀ q : Nat, s.heap.size ≤ q → A q := hsz9
  have hS : va_S A s.heap s.heap [] := va_S.rf
  have hiX4 : ∀ w ∈ u_ws RX4 TX4 3, w ∈ wsX5_makeTable := fun _ h => List.mem_cons_of_mem _ (List.mem_append_right _ (h))
  have hiX5 : ∀ w ∈ u_ws RX5 TX5 5, w ∈ wsX5_makeTable := fun _ h => List.mem_cons_of_mem _ (List.mem_append_left _ (List.mem_append_right _ (h)))
  have hl := lv_entry ([.ref ro, .ref re, .int (nI ak)]) (n := 4) (Nat.le_of_ble_eq_true rfl)
  rw [lg_entry_eq]
  generalize (lg_sl ([.ref ro, .ref re, .int (nI ak)]) ++ List.replicate (4 - (lg_sl ([.ref ro, .ref re, .int (nI ak)])).length) Slot.unset).toArray = ls at hl ⊢
  have hl : lv_has ls 4 [(0, .ref ro), (1, .ref re), (2, .int (nI ak))] := hl
  show W p l e ({ frames := 4, cells := 0, slots := 0, locals := 92 } : Room) s m (([.ref ro, .ref re, .int (nI ak)] : List Value).toArray) below meth c s.heap [] 0 0 (MQ below (va_Qv (fun (u : Nat → Int32) => ∀ a c, a < sz → c < sz → En (Rk glr ak) sz a c (u (100 * a + c))) (fun (u : Nat → Int32) t => wq D A (oX5 ro rog rsp rqu rta (nI ak) :: aI cI rta 10000 u :: oX4 re (nI sz) rl rf :: aI cI rl 10000 glr :: X) t) A) (([.ref ro, .ref re, .int (nI ak)] : List Value).toArray) s 0 0 A) (F0 m 0 ls [])
  refine lv_aload_n hx hb dX5_makeTable_0 rfl (lv_at hl 0 rfl) ?_
  refine va_get (D := D) (ci := 5) (v := .int rut) (C := RX5) (T := TX5) (N := 5) hx hb hts hiX5 hown hK hP 0 rfl rfl 4 (by decide) (hts (.fieldLink RX5 30 "LedgeLeaps$Routes" "runUpOfTable" "I") (List.mem_of_getElem? (i := 1) rfl)) (fun _ h9 => h9) rfl dX5_makeTable_1 ?_
  refine lv_iload_n hx hb dX5_makeTable_4 rfl (lv_at hl 2 rfl) ?_
  refine lv_icmp_ne (tgt := 9) hx hb dX5_makeTable_5 (by decide) (fun c_5 => ?_) (fun c_5 => ?_)
  · refine lv_aload_n hx hb dX5_makeTable_9 rfl (lv_at hl 0 rfl) ?_
    refine lv_iload_n hx hb dX5_makeTable_10 rfl (lv_at hl 2 rfl) ?_
    refine va_put (D := D) (ci := 5) (v := .int (nI ak)) (ty := .int) (C := RX5) (T := TX5) (N := 5) hx hb hts hiX5 tyX5 tyX5_ok nmX5 hown hK hP hD hS 0 rfl rfl 4 (by decide) (hts (.fieldLink RX5 30 "LedgeLeaps$Routes" "runUpOfTable" "I") (List.mem_of_getElem? (i := 1) rfl)) (fun _ h9 => h9) rfl (by decide +kernel) rfl rfl (Nat.le_of_ble_eq_true rfl) dX5_makeTable_11 (fun H locs hP hD hS => ?_)
    have hP : va_P D vwCl (oX5 ro rog rsp rqu rta (nI ak) :: aI cI rta 10000 gta :: oX4 re (nI sz) rl rf :: aI cI rl 10000 glr :: X) H := hP
    have hD : va_D A (oX5 ro rog rsp rqu rta (nI ak) :: aI cI rta 10000 gta :: oX4 re (nI sz) rl rf :: aI cI rl 10000 glr :: X) := hD
    refine lv_aload_n hx hb dX5_makeTable_14 rfl (lv_at hl 0 rfl) ?_
    refine lv_aload_n hx hb dX5_makeTable_15 rfl (lv_at hl 1 rfl) ?_
    refine lv_iload_n hx hb dX5_makeTable_16 rfl (lv_at hl 2 rfl) ?_
    refine cV_v CF hK hN hA hS (cut_of 4 [0, 1, 2, 3] hP hD rfl rfl rfl) (m_beginTable l D cI cZ cW cJ A (X) ro rog rsp rqu rta (nI ak) gta re rl rf glr sz ak hsz) (cwV 2 hts gX5_makeTable_X5_beginTable rfl rfl rfl (by decide +kernel) ⟨Nat.le_of_ble_eq_true rfl, Nat.le_of_ble_eq_true rfl⟩) (As := [.ref re, .int (nI ak)]) (rest := []) (ci := 5) (q0 := 0) rfl rfl rfl hl.1 rfl (Nat.le_of_ble_eq_true rfl) dX5_makeTable_17 ⟨Nat.le_of_ble_eq_true rfl, Nat.le_of_ble_eq_true rfl⟩ (fun u_17 H locs hq hP hD hS => ?_)
    have hq_17 : ∀ a c, a < sz → c < sz → En (Rk glr ak) 0 a c (u_17 (100 * a + c)) := hq
    have hP : va_P D vwCl (oX5 ro rog rsp rqu rta (nI ak) :: aI cI rta 10000 u_17 :: oX4 re (nI sz) rl rf :: aI cI rl 10000 glr :: X) H := pm_P hP 4 [0, 1, 2, 3] rfl
    have hD : va_D A (oX5 ro rog rsp rqu rta (nI ak) :: aI cI rta 10000 u_17 :: oX4 re (nI sz) rl rf :: aI cI rl 10000 glr :: X) := pm_D hD 4 [0, 1, 2, 3] rfl rfl rfl
    refine lv_iconst (v := 0) hx hb dX5_makeTable_20 (by decide) ?_
    refine lv_istore_n (lv' := [(3, .int 0), (0, .ref ro), (1, .ref re), (2, .int (nI ak))]) hx hb dX5_makeTable_21 rfl hl (by decide) rfl (fun ls hl => ?_)
    have loop_22 : ∀ (nfu : Nat) (z : Nat) (T : Nat → Int32) (hn_22 : sz - z < nfu) (hz1 : z ≤ sz) (hT : ∀ a c, a < sz → c < sz → En (Rk glr ak) z a c (T (100 * a + c))) (H : Heap) (locs : List Loc) (hP : va_P D vwCl (oX5 ro rog rsp rqu rta (nI ak) :: aI cI rta 10000 T :: oX4 re (nI sz) rl rf :: aI cI rl 10000 glr :: X) H) (hD : va_D A (oX5 ro rog rsp rqu rta (nI ak) :: aI cI rta 10000 T :: oX4 re (nI sz) rl rf :: aI cI rl 10000 glr :: X)) (hS : va_S A s.heap H locs) (ls : Array Slot) (hl : lv_has ls 4 [(3, .int (nI z)), (0, .ref ro), (1, .ref re), (2, .int (nI ak))]), W p l e ({ frames := 4, cells := 0, slots := 0, locals := 92 } : Room) s m (([.ref ro, .ref re, .int (nI ak)] : List Value).toArray) below meth c H locs 0 0 (MQ below (va_Qv (fun (u : Nat → Int32) => ∀ a c, a < sz → c < sz → En (Rk glr ak) sz a c (u (100 * a + c))) (fun (u : Nat → Int32) t => wq D A (oX5 ro rog rsp rqu rta (nI ak) :: aI cI rta 10000 u :: oX4 re (nI sz) rl rf :: aI cI rl 10000 glr :: X) t) A) (([.ref ro, .ref re, .int (nI ak)] : List Value).toArray) s 0 0 A) (F0 m 22 ls []) := by
      intro nfu
      induction nfu with
      | zero => intro z T hn_22; exact absurd hn_22 (Nat.not_lt_zero _)
      | succ nfu ih_22 =>
        intro z T hn_22 hz1 hT H locs hP hD hS ls hl
        refine lv_iload_n hx hb dX5_makeTable_22 rfl (lv_at hl 0 rfl) ?_
        refine lv_aload_n hx hb dX5_makeTable_23 rfl (lv_at hl 2 rfl) ?_
        refine va_get (D := D) (ci := 4) (v := .int (nI sz)) (C := RX4) (T := TX4) (N := 3) hx hb hts hiX4 hown hK hP 2 rfl rfl 0 (by decide) (hts (.fieldLink RX5 46 "LedgeLeaps$Reaches" "size" "I") (List.mem_of_getElem? (i := 2) rfl)) (fun _ h9 => h9) rfl dX5_makeTable_24 ?_
        refine lv_icmp_ge (tgt := 45) hx hb dX5_makeTable_27 (by decide) (fun c_27 => ?_) (fun c_27 => ?_)
        · exact W.vret hx hb hr (fun t9 ht9 hW9 => ⟨⟨T, rfl, fun a c ha hc => Wb.congr (by have h := le_of_ge (a := sz) (b := z) (by omega) (by omega) c_27; omega) (hT a c ha hc), by rw [ht9]; exact hP, hD⟩, hS.F ht9⟩) hS.2.2 dX5_makeTable_45
        · have hz2 : z < sz := lt_of_nge (a := sz) (b := z) (by omega) (by omega) c_27
          refine lv_aload_n hx hb dX5_makeTable_30 rfl (lv_at hl 1 rfl) ?_
          refine lv_iload_n hx hb dX5_makeTable_31 rfl (lv_at hl 0 rfl) ?_
          refine lv_aload_n hx hb dX5_makeTable_32 rfl (lv_at hl 2 rfl) ?_
          refine va_get (D := D) (ci := 4) (v := .int (nI sz)) (C := RX4) (T := TX4) (N := 3) hx hb hts hiX4 hown hK hP 2 rfl rfl 0 (by decide) (hts (.fieldLink RX5 46 "LedgeLeaps$Reaches" "size" "I") (List.mem_of_getElem? (i := 2) rfl)) (fun _ h9 => h9) rfl dX5_makeTable_33 ?_
          refine cV_v CF hK hN hA hS (cut_of 4 [0, 1, 2, 3] hP hD rfl rfl rfl) (m_allow l D cI cZ cW cJ A (oX4 re (nI sz) rl rf :: aI cI rl 10000 glr :: X) ro rog rsp rqu rta (nI ak) T sz z (Rk glr ak) hsz hz2 hT) (cwV 2 hts gX5_makeTable_X5_allowBetween rfl rfl rfl (by decide +kernel) ⟨Nat.le_of_ble_eq_true rfl, Nat.le_of_ble_eq_true rfl⟩) (As := [.int (nI z), .int (nI sz)]) (rest := []) (ci := 5) (q0 := 0) rfl rfl rfl hl.1 rfl (Nat.le_of_ble_eq_true rfl) dX5_makeTable_36 ⟨Nat.le_of_ble_eq_true rfl, Nat.le_of_ble_eq_true rfl⟩ (fun u_36 H locs hq hP hD hS => ?_)
          have hq_36 : ∀ a c, a < sz → c < sz → En (Rk glr ak) (z + 1) a c (u_36 (100 * a + c)) := hq
          have hP : va_P D vwCl (oX5 ro rog rsp rqu rta (nI ak) :: aI cI rta 10000 u_36 :: oX4 re (nI sz) rl rf :: aI cI rl 10000 glr :: X) H := pm_P hP 4 [0, 1, 2, 3] rfl
          have hD : va_D A (oX5 ro rog rsp rqu rta (nI ak) :: aI cI rta 10000 u_36 :: oX4 re (nI sz) rl rf :: aI cI rl 10000 glr :: X) := pm_D hD 4 [0, 1, 2, 3] rfl rfl rfl
          refine lv_iinc (v := (nI (z + 1))) (lv' := [(3, .int (nI (z + 1))), (0, .ref ro), (1, .ref re), (2, .int (nI ak))]) hx hb dX5_makeTable_39 hl (k := 0) rfl (nI_1 z) (by decide) rfl (fun ls hl => ?_)
          refine lv_goto (tgt := 22) hx hb dX5_makeTable_42 (by decide) ?_
          exact ih_22 (z + 1) u_36 (by omega) (by omega) (hq_36) _ _ (hP) (hD) hS _ (lv_sub hl [0, 1, 2, 3] rfl)
    exact loop_22 _ 0 u_17 (Nat.lt_succ_self _) (Nat.zero_le _) (hq_17) _ _ hP hD hS _ (lv_sub hl [0, 1, 2, 3] rfl)
  · rw [c_5] at hP hD
    have hP : va_P D vwCl (oX5 ro rog rsp rqu rta (nI ak) :: aI cI rta 10000 gta :: oX4 re (nI sz) rl rf :: aI cI rl 10000 glr :: X) s.heap := hP
    exact W.vret hx hb hr (fun t9 ht9 hW9 => ⟨⟨gta, rfl, htb ak hak c_5, by rw [ht9]; exact hP, hD⟩, hS.F ht9⟩) hS.2.2 dX5_makeTable_8
