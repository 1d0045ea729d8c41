/-! the law's loop -/
theorem nS_S0 : nS S0 = 1 := by decide +kernel
theorem count_S0 : countS S0 0 1 = 1 := by
  show nI (nS S0) = 1
  rw [nS_S0]; rfl
set_option maxHeartbeats 8000000 in
set_option maxRecDepth 100000 in
theorem law_loop {p : Program} {e : Env} {s : State} {m : MethodId} {below : List Frame} {meth : Method} {c : Code} (l : Launch) {b L : Nat} {xs : Nat → Int32} (hL : L ≤ 260) (D : va_G) (cI cZ cW cJ : ClassId) (A : Nat → Prop) (hAe : A = fun q => s.heap.size ≤ q) (t0 xo : Nat)
    (hx : p.tables.exec = Jvm.exec) (hb : c.code = cL_law) (hr : meth.sig.returnType = ret) (hml : c.maxLocals = 5) (hown : s.vm.findClass RL = some m.cls) (hts : ∀ w ∈ wsL_law, w.before #[Value.ref b] s = true) (hXs : va_X b L xs s s.heap) (hbl : b < s.heap.size) (hlocks : meth.locks = false)
    (hK : va_K D vwCl (tyL cI cZ cW cJ) s) (hN : NS s) (hZ : va_Z RX8 "GREATEST_VALUES" "[I" (.ref t0) A s s.heap) (hT : va_T .int t0 3 (fun j => .int (gvI j)) A s s.heap)
    (XB : va_W) (hJ : YJ cI cZ cW xo S0 XB) (H : Heap) (locs : List Loc) (hP : va_P D vwCl (([] : va_W) ++ XB) H) (hD : va_D A (([] : va_W) ++ XB)) (hS : va_S A s.heap H locs) (ls : Array Slot) (hl : lv_has ls 5 [(1, .ref xo), (0, .ref b)]) : W p l e room_1 s m #[Value.ref b] below meth c H locs 49 21305 (lw_Z below #[Value.ref b] s) (F0 m 8 ls []) := by
  have hA : ∀ q : Nat, s.heap.size ≤ q → A q := fun q h => by rw [hAe]; exact h
  have hbA : ¬ A b := by rw [hAe]; exact Nat.not_le.mpr hbl
  have CF : CallFix p m c cL_law 5 s #[Value.ref b] wsL_law RL := ⟨hx, hb, hml, hown, hts⟩
  have hLW0 : LW 0 S0 := ⟨0, 0, rfl, rfl, Nat.le_refl _, Nat.le_refl _⟩
  refine lv_aload_n hx hb dL_law_8 rfl (lv_at hl 0 rfl) ?_
  refine cS_i CF hK hN hA hS (cut_id hP hD) (l_holdz l D cI cZ cW cJ A ([] : va_W) xo S0 XB 0 hJ hLW0 (by decide)) (va_cwS 1 hts gL_law_L_holds rfl rfl rfl (by decide +kernel) ⟨Nat.le_of_ble_eq_true rfl, Nat.le_of_ble_eq_true rfl⟩) (As := [.ref xo]) (rest := []) rfl hl.1 rfl (Nat.le_of_ble_eq_true rfl) dL_law_9 ⟨Nat.le_of_ble_eq_true rfl, Nat.le_of_ble_eq_true rfl⟩ (fun r_9 u_9 H locs hq hP hD hS => ?_)
  obtain ⟨hrv, hJ⟩ := hq
  subst hrv
  have hP : va_P D vwCl ((([] : va_W) ++ u_9)) H := hP
  have hD : va_D A ((([] : va_W) ++ u_9)) := hD
  have c_12 : ¬ (1 : Int32) = 0 := by decide
  refine lv_if_eq (tgt := 38) hx hb dL_law_12 (by decide) (fun q => absurd q c_12) (fun _ => ?_)
  refine lv_aload_n hx hb dL_law_15 rfl (lv_at hl 0 rfl) ?_
  refine cS_i CF hK hN hA hS (cut_id hP hD) (l_areArcs l D cI cZ cW cJ A ([] : va_W) xo S0 u_9 hJ) (va_cwS 1 hts gL_law_L_areArcs rfl rfl rfl (by decide +kernel) ⟨Nat.le_of_ble_eq_true rfl, Nat.le_of_ble_eq_true rfl⟩) (As := [.ref xo]) (rest := []) rfl hl.1 rfl (Nat.le_of_ble_eq_true rfl) dL_law_16 ⟨Nat.le_of_ble_eq_true rfl, Nat.le_of_ble_eq_true rfl⟩ (fun r_16 u_16 H locs hq hP hD hS => ?_)
  obtain ⟨hrv, hJ⟩ := hq
  subst hrv
  have hP : va_P D vwCl ((([] : va_W) ++ u_16)) H := hP
  have hD : va_D A ((([] : va_W) ++ u_16)) := hD
  have c_19 : ¬ (1 : Int32) = 0 := by decide
  refine lv_if_eq (tgt := 38) hx hb dL_law_19 (by decide) (fun q => absurd q c_19) (fun _ => ?_)
  refine lv_aload_n hx hb dL_law_22 rfl (lv_at hl 0 rfl) ?_
  refine cS_i CF hK hN hA hS (cut_id hP hD) (l_isRunner l D cI cZ cW cJ A ([] : va_W) xo S0 u_16 hJ) (va_cwS 1 hts gL_law_L_isRunner rfl rfl rfl (by decide +kernel) ⟨Nat.le_of_ble_eq_true rfl, Nat.le_of_ble_eq_true rfl⟩) (As := [.ref xo]) (rest := []) rfl hl.1 rfl (Nat.le_of_ble_eq_true rfl) dL_law_23 ⟨Nat.le_of_ble_eq_true rfl, Nat.le_of_ble_eq_true rfl⟩ (fun r_23 u_23 H locs hq hP hD hS => ?_)
  obtain ⟨hrv, hJ⟩ := hq
  subst hrv
  have hP : va_P D vwCl ((([] : va_W) ++ u_23)) H := hP
  have hD : va_D A ((([] : va_W) ++ u_23)) := hD
  have c_26 : ¬ (1 : Int32) = 0 := by decide
  refine lv_if_eq (tgt := 38) hx hb dL_law_26 (by decide) (fun q => absurd q c_26) (fun _ => ?_)
  refine lv_aload_n hx hb dL_law_29 rfl (lv_at hl 0 rfl) ?_
  refine lv_iconst (v := 1) hx hb dL_law_30 (by decide) ?_
  refine cB_i hJ.hd CF hK hN hA hS hP hD (b_count l D cI cZ cW cJ A ([] : va_W) xo S0 u_23 1 (by decide) hJ) (cwV 1 hts gL_law_X8_count rfl rfl rfl (by decide +kernel) ⟨Nat.le_of_ble_eq_true rfl, Nat.le_of_ble_eq_true rfl⟩) (As := [.int 1]) (rest := []) rfl hl.1 rfl (Nat.le_of_ble_eq_true rfl) dL_law_31 ⟨Nat.le_of_ble_eq_true rfl, Nat.le_of_ble_eq_true rfl⟩ (fun r_31 u_31 H locs hq hP hD hS => ?_)
  obtain ⟨hrv, hJ⟩ := hq
  subst hrv
  refine top_i (y := 1) count_S0 ?_
  refine lv_iconst (v := 1) hx hb dL_law_34 (by decide) ?_
  have c_35 : (1 : Int32) = 1 := rfl
  refine lv_icmp_eq (tgt := 40) hx hb dL_law_35 (by decide) (fun _ => ?_) (fun q => absurd c_35 q)
  refine lv_iconst (v := 0) hx hb dL_law_40 (by decide) ?_
  refine lv_istore_n (lv' := [(2, .int 0), (1, .ref xo), (0, .ref b)]) hx hb dL_law_41 rfl hl (by decide) rfl (fun ls hl => ?_)
  have loop_42 : ∀ (nfu : Nat) (e9 : Nat) (S9 : KS) (XB9 : va_W) (hn_42 : 36 - e9 < nfu) (he9 : e9 ≤ 36) (hJ : YJ cI cZ cW xo S9 XB9) (hLW : LW e9 S9) (H : Heap) (locs : List Loc) (hP : va_P D vwCl ((([] : va_W) ++ XB9)) H) (hD : va_D A ((([] : va_W) ++ XB9))) (hS : va_S A s.heap H locs) (ls : Array Slot) (hl : lv_has ls 5 [(2, .int (nI e9)), (1, .ref xo), (0, .ref b)]), W p l e room_1 s m #[Value.ref b] below meth c H locs 49 21305 (lw_Z below #[Value.ref b] s) (F0 m 42 ls []) := by
    intro nfu
    induction nfu with
    | zero => intro e9 S9 XB9 hn_42; exact absurd hn_42 (Nat.not_lt_zero _)
    | succ nfu ih_42 =>
      intro e9 S9 XB9 hn_42 he9 hJ hLW H locs hP hD hS ls hl
      refine lv_iload_n hx hb dL_law_42 rfl (lv_at hl 0 rfl) ?_
      refine lv_bipush (v := 36) hx hb dL_law_43 (by decide) ?_
      refine lv_icmp_ge (tgt := 218) hx hb dL_law_45 (by decide) (fun c_45 => ?_) (fun c_45 => ?_)
      · refine lv_iconst (v := 1) hx hb dL_law_218 (by decide) ?_
        refine va_forget (fun q hq => by have h9 := hS.2.2 q hq; rw [hAe] at h9; exact h9) ?_
        refine W.widen (k := 600086) (n := 7301442) (by omega) (by omega) ?_
        exact lw_ret (d0 := s.drawn) (Drawn.sameBut.refl s.drawn lw_cs) hx hb hr hlocks dL_law_219
      · have he36 : e9 < 36 := lt_of_nge (a := 36) (b := e9) (by decide) (by omega) c_45
        refine lv_aload_n hx hb dL_law_48 rfl (lv_at hl 2 rfl) ?_
        refine lv_iconst (v := 2) hx hb dL_law_49 (by decide) ?_
        refine lv_iload_n hx hb dL_law_50 rfl (lv_at hl 0 rfl) ?_
        refine lv_imul hx hb dL_law_51 ?_
        refine top_i (y := (nI (2 * e9))) (pk_mul 2 e9) ?_
        refine lv_iconst (v := 1) hx hb dL_law_52 (by decide) ?_
        refine lv_iadd hx hb dL_law_53 ?_
        refine top_i (y := (nI ((2 * e9) + 1))) (nI_add (2 * e9) 1) ?_
        refine cSk_i hXs hbl hbA CF hK hN hA hS (cut_id hP hD) (l_cell l D cI cZ cW cJ A (([] : va_W) ++ XB9) b L ((2 * e9) + 1) xs (by omega) hL hbA) (va_cwS 2 hts gL_law_L_cell rfl rfl rfl (by decide +kernel) ⟨Nat.le_of_ble_eq_true rfl, Nat.le_of_ble_eq_true rfl⟩) (As := [.ref b, .int (nI ((2 * e9) + 1))]) (rest := []) rfl hl.1 rfl (Nat.le_of_ble_eq_true rfl) dL_law_54 ⟨Nat.le_of_ble_eq_true rfl, Nat.le_of_ble_eq_true rfl⟩ (fun r_54 u_54 H locs hq hP hD hS => ?_)
        have hP : va_P D vwCl ((([] : va_W) ++ XB9)) H := hP
        have hD : va_D A ((([] : va_W) ++ XB9)) := hD
        refine lv_istore_n (lv' := [(3, .int r_54), (2, .int (nI e9)), (1, .ref xo), (0, .ref b)]) hx hb dL_law_57 rfl hl (by decide) rfl (fun ls hl => ?_)
        refine lv_aload_n hx hb dL_law_58 rfl (lv_at hl 2 rfl) ?_
        refine lv_aload_n hx hb dL_law_59 rfl (lv_at hl 3 rfl) ?_
        refine lv_iconst (v := 2) hx hb dL_law_60 (by decide) ?_
        refine lv_iload_n hx hb dL_law_61 rfl (lv_at hl 1 rfl) ?_
        refine lv_imul hx hb dL_law_62 ?_
        refine top_i (y := (nI (2 * e9))) (pk_mul 2 e9) ?_
        refine cSk_i hXs hbl hbA CF hK hN hA hS (cut_id hP hD) (l_cell l D cI cZ cW cJ A (([] : va_W) ++ XB9) b L (2 * e9) xs (by omega) hL hbA) (va_cwS 2 hts gL_law_L_cell rfl rfl rfl (by decide +kernel) ⟨Nat.le_of_ble_eq_true rfl, Nat.le_of_ble_eq_true rfl⟩) (As := [.ref b, .int (nI (2 * e9))]) (rest := [.ref xo]) rfl hl.1 rfl (Nat.le_of_ble_eq_true rfl) dL_law_63 ⟨Nat.le_of_ble_eq_true rfl, Nat.le_of_ble_eq_true rfl⟩ (fun r_63 u_63 H locs hq hP hD hS => ?_)
        have hP : va_P D vwCl ((([] : va_W) ++ XB9)) H := hP
        have hD : va_D A ((([] : va_W) ++ XB9)) := hD
        refine lv_iload_n hx hb dL_law_66 rfl (lv_at hl 0 rfl) ?_
        refine cSz_i hZ hT CF hK hN hA hS (cut_id hP hD) (l_act l D cI cZ cW cJ A ([] : va_W) t0 xo S9 XB9 r_63 r_54 e9 hJ hLW) (va_cwS 3 hts gL_law_L_act rfl rfl rfl (by decide +kernel) ⟨Nat.le_of_ble_eq_true rfl, Nat.le_of_ble_eq_true rfl⟩) (As := [.ref xo, .int r_63, .int r_54]) (rest := []) rfl hl.1 rfl (Nat.le_of_ble_eq_true rfl) dL_law_67 ⟨Nat.le_of_ble_eq_true rfl, Nat.le_of_ble_eq_true rfl⟩ (fun r_67 u_67 H locs hq hP hD hS => ?_)
        obtain ⟨hrv, hJ, hLW⟩ := hq
        subst hrv
        have hP : va_P D vwCl ((([] : va_W) ++ u_67.2)) H := hP
        have hD : va_D A ((([] : va_W) ++ u_67.2)) := hD
        have hW9 : Wf u_67.1 := hJ.wf
        have hw1 : u_67.1.2.2.1.1 < 20 := hW9.2.1
        have hw2 : u_67.1.2.2.1.2 < 10 := hW9.2.2.1
        have hn9 : nS u_67.1 ≤ 100 := nL_le _
        have how := (owS_lt hW9).1
        have c_70 : ¬ (1 : Int32) = 0 := by decide
        refine lv_if_ne (tgt := 75) hx hb dL_law_70 (by decide) (fun _ => ?_) (fun q => absurd q c_70)
        refine lv_aload_n hx hb dL_law_75 rfl (lv_at hl 2 rfl) ?_
        refine lv_iconst (v := 1) hx hb dL_law_76 (by decide) ?_
        refine cB_i hJ.hd CF hK hN hA hS hP hD (b_count l D cI cZ cW cJ A ([] : va_W) xo u_67.1 u_67.2 1 (by decide) hJ) (cwV 1 hts gL_law_X8_count rfl rfl rfl (by decide +kernel) ⟨Nat.le_of_ble_eq_true rfl, Nat.le_of_ble_eq_true rfl⟩) (As := [.int 1]) (rest := []) rfl hl.1 rfl (Nat.le_of_ble_eq_true rfl) dL_law_77 ⟨Nat.le_of_ble_eq_true rfl, Nat.le_of_ble_eq_true rfl⟩ (fun r_77 u_77 H locs hq hP hD hS => ?_)
        obtain ⟨hrv, hJ⟩ := hq
        subst hrv
        refine top_i (y := (nI (nS u_67.1))) rfl ?_
        refine lv_istore (lv' := [(4, .int (nI (nS u_67.1))), (3, .int r_54), (2, .int (nI e9)), (1, .ref xo), (0, .ref b)]) hx hb dL_law_80 hl (by decide) rfl (fun ls hl => ?_)
        refine lv_aload_n hx hb dL_law_82 rfl (lv_at hl 3 rfl) ?_
        refine lv_iload_n hx hb dL_law_83 rfl (lv_at hl 1 rfl) ?_
        refine lv_iconst (v := 4) hx hb dL_law_84 (by decide) ?_
        refine lv_ishr hx hb dL_law_85 ?_
        refine lv_bipush (v := 20) hx hb dL_law_86 (by decide) ?_
        refine cS_i CF hK hN hA hS (cut_id hP hD) (l_low l D cI cZ cW cJ A (([] : va_W) ++ u_77) (r_54 >>> (4 &&& 31)) 20 (by decide)) (va_cwS 2 hts gL_law_L_low rfl rfl rfl (by decide +kernel) ⟨Nat.le_of_ble_eq_true rfl, Nat.le_of_ble_eq_true rfl⟩) (As := [.int (r_54 >>> (4 &&& 31)), .int 20]) (rest := [.ref xo]) rfl hl.1 rfl (Nat.le_of_ble_eq_true rfl) dL_law_88 ⟨Nat.le_of_ble_eq_true rfl, Nat.le_of_ble_eq_true rfl⟩ (fun r_88 u_88 H locs hq hP hD hS => ?_)
        obtain ⟨hk_88, hrv⟩ := hq
        subst hrv
        have hP : va_P D vwCl ((([] : va_W) ++ u_77)) H := hP
        have hD : va_D A ((([] : va_W) ++ u_77)) := hD
        refine lv_iload_n hx hb dL_law_91 rfl (lv_at hl 1 rfl) ?_
        refine lv_bipush (v := 9) hx hb dL_law_92 (by decide) ?_
        refine lv_ishr hx hb dL_law_94 ?_
        refine lv_bipush (v := 10) hx hb dL_law_95 (by decide) ?_
        refine cS_i CF hK hN hA hS (cut_id hP hD) (l_low l D cI cZ cW cJ A (([] : va_W) ++ u_77) (r_54 >>> (9 &&& 31)) 10 (by decide)) (va_cwS 2 hts gL_law_L_low rfl rfl rfl (by decide +kernel) ⟨Nat.le_of_ble_eq_true rfl, Nat.le_of_ble_eq_true rfl⟩) (As := [.int (r_54 >>> (9 &&& 31)), .int 10]) (rest := [.int (nI u_88), .ref xo]) rfl hl.1 rfl (Nat.le_of_ble_eq_true rfl) dL_law_97 ⟨Nat.le_of_ble_eq_true rfl, Nat.le_of_ble_eq_true rfl⟩ (fun r_97 u_97 H locs hq hP hD hS => ?_)
        obtain ⟨hk_97, hrv⟩ := hq
        subst hrv
        have hP : va_P D vwCl ((([] : va_W) ++ u_77)) H := hP
        have hD : va_D A ((([] : va_W) ++ u_77)) := hD
        refine cS_i CF hK hN hA hS (cut_id hP hD) (l_isCell l D cI cZ cW cJ A ([] : va_W) xo u_67.1 u_77 u_88 u_97 hJ hk_88 hk_97) (va_cwS 3 hts gL_law_L_isCell rfl rfl rfl (by decide +kernel) ⟨Nat.le_of_ble_eq_true rfl, Nat.le_of_ble_eq_true rfl⟩) (As := [.ref xo, .int (nI u_88), .int (nI u_97)]) (rest := []) rfl hl.1 rfl (Nat.le_of_ble_eq_true rfl) dL_law_100 ⟨Nat.le_of_ble_eq_true rfl, Nat.le_of_ble_eq_true rfl⟩ (fun r_100 u_100 H locs hq hP hD hS => ?_)
        obtain ⟨hrv, hJ⟩ := hq
        subst hrv
        have hP : va_P D vwCl ((([] : va_W) ++ u_100)) H := hP
        have hD : va_D A ((([] : va_W) ++ u_100)) := hD
        have c_103 : ¬ (1 : Int32) = 0 := by decide
        refine lv_if_eq (tgt := 210) hx hb dL_law_103 (by decide) (fun q => absurd q c_103) (fun _ => ?_)
        refine lv_aload_n hx hb dL_law_106 rfl (lv_at hl 3 rfl) ?_
        refine lv_aload_n hx hb dL_law_107 rfl (lv_at hl 3 rfl) ?_
        refine lv_iconst (v := 2) hx hb dL_law_108 (by decide) ?_
        refine cB_i hJ.hd CF hK hN hA hS hP hD (b_count l D cI cZ cW cJ A ([] : va_W) xo u_67.1 u_100 2 (by decide) hJ) (cwV 1 hts gL_law_X8_count rfl rfl rfl (by decide +kernel) ⟨Nat.le_of_ble_eq_true rfl, Nat.le_of_ble_eq_true rfl⟩) (As := [.int 2]) (rest := [.ref xo]) rfl hl.1 rfl (Nat.le_of_ble_eq_true rfl) dL_law_109 ⟨Nat.le_of_ble_eq_true rfl, Nat.le_of_ble_eq_true rfl⟩ (fun r_109 u_109 H locs hq hP hD hS => ?_)
        obtain ⟨hrv, hJ⟩ := hq
        subst hrv
        refine top_i (y := (nI u_67.1.2.2.1.1)) rfl ?_
        refine lv_aload_n hx hb dL_law_112 rfl (lv_at hl 3 rfl) ?_
        refine lv_iconst (v := 3) hx hb dL_law_113 (by decide) ?_
        refine cB_i hJ.hd CF hK hN hA hS hP hD (b_count l D cI cZ cW cJ A ([] : va_W) xo u_67.1 u_109 3 (by decide) hJ) (cwV 1 hts gL_law_X8_count rfl rfl rfl (by decide +kernel) ⟨Nat.le_of_ble_eq_true rfl, Nat.le_of_ble_eq_true rfl⟩) (As := [.int 3]) (rest := [.int (nI u_67.1.2.2.1.1), .ref xo]) rfl hl.1 rfl (Nat.le_of_ble_eq_true rfl) dL_law_114 ⟨Nat.le_of_ble_eq_true rfl, Nat.le_of_ble_eq_true rfl⟩ (fun r_114 u_114 H locs hq hP hD hS => ?_)
        obtain ⟨hrv, hJ⟩ := hq
        subst hrv
        refine top_i (y := (nI u_67.1.2.2.1.2)) rfl ?_
        refine lv_iload_n hx hb dL_law_117 rfl (lv_at hl 1 rfl) ?_
        refine lv_iconst (v := 2) hx hb dL_law_118 (by decide) ?_
        refine lv_ishr hx hb dL_law_119 ?_
        refine lv_iconst (v := 2) hx hb dL_law_120 (by decide) ?_
        refine cS_i CF hK hN hA hS (cut_id hP hD) (l_low l D cI cZ cW cJ A (([] : va_W) ++ u_114) (r_54 >>> (2 &&& 31)) 2 (by decide)) (va_cwS 2 hts gL_law_L_low rfl rfl rfl (by decide +kernel) ⟨Nat.le_of_ble_eq_true rfl, Nat.le_of_ble_eq_true rfl⟩) (As := [.int (r_54 >>> (2 &&& 31)), .int 2]) (rest := [.int (nI u_67.1.2.2.1.2), .int (nI u_67.1.2.2.1.1), .ref xo]) rfl hl.1 rfl (Nat.le_of_ble_eq_true rfl) dL_law_121 ⟨Nat.le_of_ble_eq_true rfl, Nat.le_of_ble_eq_true rfl⟩ (fun r_121 u_121 H locs hq hP hD hS => ?_)
        obtain ⟨hk_121, hrv⟩ := hq
        subst hrv
        have hP : va_P D vwCl ((([] : va_W) ++ u_114)) H := hP
        have hD : va_D A ((([] : va_W) ++ u_114)) := hD
        refine lv_if_ne (tgt := 131) hx hb dL_law_124 (by decide) (fun c_124 => ?_) (fun c_124 => ?_)
        · refine lv_iconst (v := (-1)) hx hb dL_law_131 (by decide) ?_
          refine lv_iload_n hx hb dL_law_132 rfl (lv_at hl 1 rfl) ?_
          refine lv_iconst (v := 5) hx hb dL_law_133 (by decide) ?_
          refine lv_ishr hx hb dL_law_134 ?_
          refine lv_iconst (v := 4) hx hb dL_law_135 (by decide) ?_
          refine cS_i CF hK hN hA hS (cut_id hP hD) (l_low l D cI cZ cW cJ A (([] : va_W) ++ u_114) (r_54 >>> (5 &&& 31)) 4 (by decide)) (va_cwS 2 hts gL_law_L_low rfl rfl rfl (by decide +kernel) ⟨Nat.le_of_ble_eq_true rfl, Nat.le_of_ble_eq_true rfl⟩) (As := [.int (r_54 >>> (5 &&& 31)), .int 4]) (rest := [.int (-1), .int (nI u_67.1.2.2.1.2), .int (nI u_67.1.2.2.1.1), .ref xo]) rfl hl.1 rfl (Nat.le_of_ble_eq_true rfl) dL_law_136 ⟨Nat.le_of_ble_eq_true rfl, Nat.le_of_ble_eq_true rfl⟩ (fun r_136 u_136 H locs hq hP hD hS => ?_)
          obtain ⟨hk_136, hrv⟩ := hq
          subst hrv
          have hP : va_P D vwCl ((([] : va_W) ++ u_114)) H := hP
          have hD : va_D A ((([] : va_W) ++ u_114)) := hD
          refine cS_i CF hK hN hA hS (cut_id hP hD) (l_leaps l D cI cZ cW cJ A ([] : va_W) xo u_67.1 u_114 u_67.1.2.2.1.1 u_67.1.2.2.1.2 u_136 (-1) hJ (Or.inr rfl) hw1 hw2 (by omega) hW9.2.2.2) (va_cwS 5 hts gL_law_L_leaps rfl rfl rfl (by decide +kernel) ⟨Nat.le_of_ble_eq_true rfl, Nat.le_of_ble_eq_true rfl⟩) (As := [.ref xo, .int (nI u_67.1.2.2.1.1), .int (nI u_67.1.2.2.1.2), .int (-1), .int (nI u_136)]) (rest := []) rfl hl.1 rfl (Nat.le_of_ble_eq_true rfl) dL_law_139 ⟨Nat.le_of_ble_eq_true rfl, Nat.le_of_ble_eq_true rfl⟩ (fun r_139 u_139 H locs hq hP hD hS => ?_)
          obtain ⟨hrv, hJ⟩ := hq
          subst hrv
          have hP : va_P D vwCl ((([] : va_W) ++ u_139)) H := hP
          have hD : va_D A ((([] : va_W) ++ u_139)) := hD
          have c_142 : ¬ (1 : Int32) = 0 := by decide
          refine lv_if_eq (tgt := 210) hx hb dL_law_142 (by decide) (fun q => absurd q c_142) (fun _ => ?_)
          refine lv_iload_n hx hb dL_law_145 rfl (lv_at hl 2 rfl) ?_
          refine lv_bipush (v := 7) hx hb dL_law_146 (by decide) ?_
          refine lv_irem hx hb dL_law_148 (by decide) ?_
          refine top_i (y := (nI (e9 % 7))) (pk_rem (a := e9) (d := 7) (by omega) (by decide) (by decide)) ?_
          refine lv_bipush (v := 6) hx hb dL_law_149 (by decide) ?_
          refine lv_icmp_ne (tgt := 194) hx hb dL_law_151 (by decide) (fun c_151 => ?_) (fun c_151 => ?_)
          · refine lv_iload_n hx hb dL_law_194 rfl (lv_at hl 2 rfl) ?_
            refine lv_bipush (v := 12) hx hb dL_law_195 (by decide) ?_
            refine lv_irem hx hb dL_law_197 (by decide) ?_
            refine top_i (y := (nI (e9 % 12))) (pk_rem (a := e9) (d := 12) (by omega) (by decide) (by decide)) ?_
            refine lv_bipush (v := 11) hx hb dL_law_198 (by decide) ?_
            refine lv_icmp_ne (tgt := 212) hx hb dL_law_200 (by decide) (fun c_200 => ?_) (fun c_200 => ?_)
            · refine lv_iinc (v := (nI (e9 + 1))) (lv' := [(2, .int (nI (e9 + 1))), (4, .int (nI (nS u_67.1))), (3, .int r_54), (1, .ref xo), (0, .ref b)]) hx hb dL_law_212 hl (k := 2) rfl (nI_1 e9) (by decide) rfl (fun ls hl => ?_)
              refine lv_goto (tgt := 42) hx hb dL_law_215 (by decide) ?_
              exact ih_42 (e9 + 1) u_67.1 u_139 (by omega) (by omega) (hJ) (hLW) _ _ (hP) (hD) hS _ (lv_sub hl [0, 3, 4] rfl)
            · refine lv_aload_n hx hb dL_law_203 rfl (lv_at hl 3 rfl) ?_
              refine cS_i CF hK hN hA hS (cut_id hP hD) (l_isRunner l D cI cZ cW cJ A ([] : va_W) xo u_67.1 u_139 hJ) (va_cwS 1 hts gL_law_L_isRunner rfl rfl rfl (by decide +kernel) ⟨Nat.le_of_ble_eq_true rfl, Nat.le_of_ble_eq_true rfl⟩) (As := [.ref xo]) (rest := []) rfl hl.1 rfl (Nat.le_of_ble_eq_true rfl) dL_law_204 ⟨Nat.le_of_ble_eq_true rfl, Nat.le_of_ble_eq_true rfl⟩ (fun r_204 u_204 H locs hq hP hD hS => ?_)
              obtain ⟨hrv, hJ⟩ := hq
              subst hrv
              have hP : va_P D vwCl ((([] : va_W) ++ u_204)) H := hP
              have hD : va_D A ((([] : va_W) ++ u_204)) := hD
              have c_207 : ¬ (1 : Int32) = 0 := by decide
              refine lv_if_ne (tgt := 212) hx hb dL_law_207 (by decide) (fun _ => ?_) (fun q => absurd q c_207)
              refine lv_iinc (v := (nI (e9 + 1))) (lv' := [(2, .int (nI (e9 + 1))), (4, .int (nI (nS u_67.1))), (3, .int r_54), (1, .ref xo), (0, .ref b)]) hx hb dL_law_212 hl (k := 2) rfl (nI_1 e9) (by decide) rfl (fun ls hl => ?_)
              refine lv_goto (tgt := 42) hx hb dL_law_215 (by decide) ?_
              exact ih_42 (e9 + 1) u_67.1 u_204 (by omega) (by omega) (hJ) (hLW) _ _ (hP) (hD) hS _ (lv_sub hl [0, 3, 4] rfl)
          · refine lv_aload_n hx hb dL_law_154 rfl (lv_at hl 3 rfl) ?_
            refine cS_i CF hK hN hA hS (cut_id hP hD) (l_holdz l D cI cZ cW cJ A ([] : va_W) xo u_67.1 u_139 (e9 + 1) hJ hLW (by omega)) (va_cwS 1 hts gL_law_L_holds rfl rfl rfl (by decide +kernel) ⟨Nat.le_of_ble_eq_true rfl, Nat.le_of_ble_eq_true rfl⟩) (As := [.ref xo]) (rest := []) rfl hl.1 rfl (Nat.le_of_ble_eq_true rfl) dL_law_155 ⟨Nat.le_of_ble_eq_true rfl, Nat.le_of_ble_eq_true rfl⟩ (fun r_155 u_155 H locs hq hP hD hS => ?_)
            obtain ⟨hrv, hJ⟩ := hq
            subst hrv
            have hP : va_P D vwCl ((([] : va_W) ++ u_155)) H := hP
            have hD : va_D A ((([] : va_W) ++ u_155)) := hD
            have c_158 : ¬ (1 : Int32) = 0 := by decide
            refine lv_if_eq (tgt := 210) hx hb dL_law_158 (by decide) (fun q => absurd q c_158) (fun _ => ?_)
            refine lv_aload_n hx hb dL_law_161 rfl (lv_at hl 3 rfl) ?_
            refine lv_iload_n hx hb dL_law_162 rfl (lv_at hl 1 rfl) ?_
            refine lv_iconst (v := 3) hx hb dL_law_163 (by decide) ?_
            refine lv_ishr hx hb dL_law_164 ?_
            refine lv_iload hx hb dL_law_165 (lv_at hl 0 rfl) ?_
            refine cS_i CF hK hN hA hS (cut_id hP hD) (l_low l D cI cZ cW cJ A (([] : va_W) ++ u_155) (r_54 >>> (3 &&& 31)) (nS u_67.1) (⟨by omega, by omega⟩)) (va_cwS 2 hts gL_law_L_low rfl rfl rfl (by decide +kernel) ⟨Nat.le_of_ble_eq_true rfl, Nat.le_of_ble_eq_true rfl⟩) (As := [.int (r_54 >>> (3 &&& 31)), .int (nI (nS u_67.1))]) (rest := [.ref xo]) rfl hl.1 rfl (Nat.le_of_ble_eq_true rfl) dL_law_167 ⟨Nat.le_of_ble_eq_true rfl, Nat.le_of_ble_eq_true rfl⟩ (fun r_167 u_167 H locs hq hP hD hS => ?_)
            obtain ⟨hk_167, hrv⟩ := hq
            subst hrv
            have hP : va_P D vwCl ((([] : va_W) ++ u_155)) H := hP
            have hD : va_D A ((([] : va_W) ++ u_155)) := hD
            refine lv_iload_n hx hb dL_law_170 rfl (lv_at hl 1 rfl) ?_
            refine lv_bipush (v := 7) hx hb dL_law_171 (by decide) ?_
            refine lv_ishr hx hb dL_law_173 ?_
            refine lv_iload hx hb dL_law_174 (lv_at hl 0 rfl) ?_
            refine cS_i CF hK hN hA hS (cut_id hP hD) (l_low l D cI cZ cW cJ A (([] : va_W) ++ u_155) (r_54 >>> (7 &&& 31)) (nS u_67.1) (⟨by omega, by omega⟩)) (va_cwS 2 hts gL_law_L_low rfl rfl rfl (by decide +kernel) ⟨Nat.le_of_ble_eq_true rfl, Nat.le_of_ble_eq_true rfl⟩) (As := [.int (r_54 >>> (7 &&& 31)), .int (nI (nS u_67.1))]) (rest := [.int (nI u_167), .ref xo]) rfl hl.1 rfl (Nat.le_of_ble_eq_true rfl) dL_law_176 ⟨Nat.le_of_ble_eq_true rfl, Nat.le_of_ble_eq_true rfl⟩ (fun r_176 u_176 H locs hq hP hD hS => ?_)
            obtain ⟨hk_176, hrv⟩ := hq
            subst hrv
            have hP : va_P D vwCl ((([] : va_W) ++ u_155)) H := hP
            have hD : va_D A ((([] : va_W) ++ u_155)) := hD
            refine lv_iload_n hx hb dL_law_179 rfl (lv_at hl 1 rfl) ?_
            refine lv_bipush (v := 11) hx hb dL_law_180 (by decide) ?_
            refine lv_ishr hx hb dL_law_182 ?_
            refine lv_iload hx hb dL_law_183 (lv_at hl 0 rfl) ?_
            refine cS_i CF hK hN hA hS (cut_id hP hD) (l_low l D cI cZ cW cJ A (([] : va_W) ++ u_155) (r_54 >>> (11 &&& 31)) (nS u_67.1) (⟨by omega, by omega⟩)) (va_cwS 2 hts gL_law_L_low rfl rfl rfl (by decide +kernel) ⟨Nat.le_of_ble_eq_true rfl, Nat.le_of_ble_eq_true rfl⟩) (As := [.int (r_54 >>> (11 &&& 31)), .int (nI (nS u_67.1))]) (rest := [.int (nI u_176), .int (nI u_167), .ref xo]) rfl hl.1 rfl (Nat.le_of_ble_eq_true rfl) dL_law_185 ⟨Nat.le_of_ble_eq_true rfl, Nat.le_of_ble_eq_true rfl⟩ (fun r_185 u_185 H locs hq hP hD hS => ?_)
            obtain ⟨hk_185, hrv⟩ := hq
            subst hrv
            have hP : va_P D vwCl ((([] : va_W) ++ u_155)) H := hP
            have hD : va_D A ((([] : va_W) ++ u_155)) := hD
            refine cS_i CF hK hN hA hS (cut_id hP hD) (l_isPair l D cI cZ cW cJ A ([] : va_W) xo u_67.1 u_155 u_167 u_176 u_185 hJ hk_167 hk_176 hk_185) (va_cwS 4 hts gL_law_L_isPair rfl rfl rfl (by decide +kernel) ⟨Nat.le_of_ble_eq_true rfl, Nat.le_of_ble_eq_true rfl⟩) (As := [.ref xo, .int (nI u_167), .int (nI u_176), .int (nI u_185)]) (rest := []) rfl hl.1 rfl (Nat.le_of_ble_eq_true rfl) dL_law_188 ⟨Nat.le_of_ble_eq_true rfl, Nat.le_of_ble_eq_true rfl⟩ (fun r_188 u_188 H locs hq hP hD hS => ?_)
            obtain ⟨hrv, hJ⟩ := hq
            subst hrv
            have hP : va_P D vwCl ((([] : va_W) ++ u_188)) H := hP
            have hD : va_D A ((([] : va_W) ++ u_188)) := hD
            have c_191 : ¬ (1 : Int32) = 0 := by decide
            refine lv_if_eq (tgt := 210) hx hb dL_law_191 (by decide) (fun q => absurd q c_191) (fun _ => ?_)
            refine lv_iload_n hx hb dL_law_194 rfl (lv_at hl 2 rfl) ?_
            refine lv_bipush (v := 12) hx hb dL_law_195 (by decide) ?_
            refine lv_irem hx hb dL_law_197 (by decide) ?_
            refine top_i (y := (nI (e9 % 12))) (pk_rem (a := e9) (d := 12) (by omega) (by decide) (by decide)) ?_
            refine lv_bipush (v := 11) hx hb dL_law_198 (by decide) ?_
            refine lv_icmp_ne (tgt := 212) hx hb dL_law_200 (by decide) (fun c_200 => ?_) (fun c_200 => ?_)
            · refine lv_iinc (v := (nI (e9 + 1))) (lv' := [(2, .int (nI (e9 + 1))), (4, .int (nI (nS u_67.1))), (3, .int r_54), (1, .ref xo), (0, .ref b)]) hx hb dL_law_212 hl (k := 2) rfl (nI_1 e9) (by decide) rfl (fun ls hl => ?_)
              refine lv_goto (tgt := 42) hx hb dL_law_215 (by decide) ?_
              exact ih_42 (e9 + 1) u_67.1 u_188 (by omega) (by omega) (hJ) (hLW) _ _ (hP) (hD) hS _ (lv_sub hl [0, 3, 4] rfl)
            · refine lv_aload_n hx hb dL_law_203 rfl (lv_at hl 3 rfl) ?_
              refine cS_i CF hK hN hA hS (cut_id hP hD) (l_isRunner l D cI cZ cW cJ A ([] : va_W) xo u_67.1 u_188 hJ) (va_cwS 1 hts gL_law_L_isRunner rfl rfl rfl (by decide +kernel) ⟨Nat.le_of_ble_eq_true rfl, Nat.le_of_ble_eq_true rfl⟩) (As := [.ref xo]) (rest := []) rfl hl.1 rfl (Nat.le_of_ble_eq_true rfl) dL_law_204 ⟨Nat.le_of_ble_eq_true rfl, Nat.le_of_ble_eq_true rfl⟩ (fun r_204 u_204 H locs hq hP hD hS => ?_)
              obtain ⟨hrv, hJ⟩ := hq
              subst hrv
              have hP : va_P D vwCl ((([] : va_W) ++ u_204)) H := hP
              have hD : va_D A ((([] : va_W) ++ u_204)) := hD
              have c_207 : ¬ (1 : Int32) = 0 := by decide
              refine lv_if_ne (tgt := 212) hx hb dL_law_207 (by decide) (fun _ => ?_) (fun q => absurd q c_207)
              refine lv_iinc (v := (nI (e9 + 1))) (lv' := [(2, .int (nI (e9 + 1))), (4, .int (nI (nS u_67.1))), (3, .int r_54), (1, .ref xo), (0, .ref b)]) hx hb dL_law_212 hl (k := 2) rfl (nI_1 e9) (by decide) rfl (fun ls hl => ?_)
              refine lv_goto (tgt := 42) hx hb dL_law_215 (by decide) ?_
              exact ih_42 (e9 + 1) u_67.1 u_204 (by omega) (by omega) (hJ) (hLW) _ _ (hP) (hD) hS _ (lv_sub hl [0, 3, 4] rfl)
        · refine lv_iconst (v := 1) hx hb dL_law_127 (by decide) ?_
          refine lv_goto (tgt := 132) hx hb dL_law_128 (by decide) ?_
          refine lv_iload_n hx hb dL_law_132 rfl (lv_at hl 1 rfl) ?_
          refine lv_iconst (v := 5) hx hb dL_law_133 (by decide) ?_
          refine lv_ishr hx hb dL_law_134 ?_
          refine lv_iconst (v := 4) hx hb dL_law_135 (by decide) ?_
          refine cS_i CF hK hN hA hS (cut_id hP hD) (l_low l D cI cZ cW cJ A (([] : va_W) ++ u_114) (r_54 >>> (5 &&& 31)) 4 (by decide)) (va_cwS 2 hts gL_law_L_low rfl rfl rfl (by decide +kernel) ⟨Nat.le_of_ble_eq_true rfl, Nat.le_of_ble_eq_true rfl⟩) (As := [.int (r_54 >>> (5 &&& 31)), .int 4]) (rest := [.int 1, .int (nI u_67.1.2.2.1.2), .int (nI u_67.1.2.2.1.1), .ref xo]) rfl hl.1 rfl (Nat.le_of_ble_eq_true rfl) dL_law_136 ⟨Nat.le_of_ble_eq_true rfl, Nat.le_of_ble_eq_true rfl⟩ (fun r_136 u_136 H locs hq hP hD hS => ?_)
          obtain ⟨hk_136, hrv⟩ := hq
          subst hrv
          have hP : va_P D vwCl ((([] : va_W) ++ u_114)) H := hP
          have hD : va_D A ((([] : va_W) ++ u_114)) := hD
          refine cS_i CF hK hN hA hS (cut_id hP hD) (l_leaps l D cI cZ cW cJ A ([] : va_W) xo u_67.1 u_114 u_67.1.2.2.1.1 u_67.1.2.2.1.2 u_136 1 hJ (Or.inl rfl) hw1 hw2 (by omega) hW9.2.2.2) (va_cwS 5 hts gL_law_L_leaps rfl rfl rfl (by decide +kernel) ⟨Nat.le_of_ble_eq_true rfl, Nat.le_of_ble_eq_true rfl⟩) (As := [.ref xo, .int (nI u_67.1.2.2.1.1), .int (nI u_67.1.2.2.1.2), .int 1, .int (nI u_136)]) (rest := []) rfl hl.1 rfl (Nat.le_of_ble_eq_true rfl) dL_law_139 ⟨Nat.le_of_ble_eq_true rfl, Nat.le_of_ble_eq_true rfl⟩ (fun r_139 u_139 H locs hq hP hD hS => ?_)
          obtain ⟨hrv, hJ⟩ := hq
          subst hrv
          have hP : va_P D vwCl ((([] : va_W) ++ u_139)) H := hP
          have hD : va_D A ((([] : va_W) ++ u_139)) := hD
          have c_142 : ¬ (1 : Int32) = 0 := by decide
          refine lv_if_eq (tgt := 210) hx hb dL_law_142 (by decide) (fun q => absurd q c_142) (fun _ => ?_)
          refine lv_iload_n hx hb dL_law_145 rfl (lv_at hl 2 rfl) ?_
          refine lv_bipush (v := 7) hx hb dL_law_146 (by decide) ?_
          refine lv_irem hx hb dL_law_148 (by decide) ?_
          refine top_i (y := (nI (e9 % 7))) (pk_rem (a := e9) (d := 7) (by omega) (by decide) (by decide)) ?_
          refine lv_bipush (v := 6) hx hb dL_law_149 (by decide) ?_
          refine lv_icmp_ne (tgt := 194) hx hb dL_law_151 (by decide) (fun c_151 => ?_) (fun c_151 => ?_)
          · refine lv_iload_n hx hb dL_law_194 rfl (lv_at hl 2 rfl) ?_
            refine lv_bipush (v := 12) hx hb dL_law_195 (by decide) ?_
            refine lv_irem hx hb dL_law_197 (by decide) ?_
            refine top_i (y := (nI (e9 % 12))) (pk_rem (a := e9) (d := 12) (by omega) (by decide) (by decide)) ?_
            refine lv_bipush (v := 11) hx hb dL_law_198 (by decide) ?_
            refine lv_icmp_ne (tgt := 212) hx hb dL_law_200 (by decide) (fun c_200 => ?_) (fun c_200 => ?_)
            · refine lv_iinc (v := (nI (e9 + 1))) (lv' := [(2, .int (nI (e9 + 1))), (4, .int (nI (nS u_67.1))), (3, .int r_54), (1, .ref xo), (0, .ref b)]) hx hb dL_law_212 hl (k := 2) rfl (nI_1 e9) (by decide) rfl (fun ls hl => ?_)
              refine lv_goto (tgt := 42) hx hb dL_law_215 (by decide) ?_
              exact ih_42 (e9 + 1) u_67.1 u_139 (by omega) (by omega) (hJ) (hLW) _ _ (hP) (hD) hS _ (lv_sub hl [0, 3, 4] rfl)
            · refine lv_aload_n hx hb dL_law_203 rfl (lv_at hl 3 rfl) ?_
              refine cS_i CF hK hN hA hS (cut_id hP hD) (l_isRunner l D cI cZ cW cJ A ([] : va_W) xo u_67.1 u_139 hJ) (va_cwS 1 hts gL_law_L_isRunner rfl rfl rfl (by decide +kernel) ⟨Nat.le_of_ble_eq_true rfl, Nat.le_of_ble_eq_true rfl⟩) (As := [.ref xo]) (rest := []) rfl hl.1 rfl (Nat.le_of_ble_eq_true rfl) dL_law_204 ⟨Nat.le_of_ble_eq_true rfl, Nat.le_of_ble_eq_true rfl⟩ (fun r_204 u_204 H locs hq hP hD hS => ?_)
              obtain ⟨hrv, hJ⟩ := hq
              subst hrv
              have hP : va_P D vwCl ((([] : va_W) ++ u_204)) H := hP
              have hD : va_D A ((([] : va_W) ++ u_204)) := hD
              have c_207 : ¬ (1 : Int32) = 0 := by decide
              refine lv_if_ne (tgt := 212) hx hb dL_law_207 (by decide) (fun _ => ?_) (fun q => absurd q c_207)
              refine lv_iinc (v := (nI (e9 + 1))) (lv' := [(2, .int (nI (e9 + 1))), (4, .int (nI (nS u_67.1))), (3, .int r_54), (1, .ref xo), (0, .ref b)]) hx hb dL_law_212 hl (k := 2) rfl (nI_1 e9) (by decide) rfl (fun ls hl => ?_)
              refine lv_goto (tgt := 42) hx hb dL_law_215 (by decide) ?_
              exact ih_42 (e9 + 1) u_67.1 u_204 (by omega) (by omega) (hJ) (hLW) _ _ (hP) (hD) hS _ (lv_sub hl [0, 3, 4] rfl)
          · refine lv_aload_n hx hb dL_law_154 rfl (lv_at hl 3 rfl) ?_
            refine cS_i CF hK hN hA hS (cut_id hP hD) (l_holdz l D cI cZ cW cJ A ([] : va_W) xo u_67.1 u_139 (e9 + 1) hJ hLW (by omega)) (va_cwS 1 hts gL_law_L_holds rfl rfl rfl (by decide +kernel) ⟨Nat.le_of_ble_eq_true rfl, Nat.le_of_ble_eq_true rfl⟩) (As := [.ref xo]) (rest := []) rfl hl.1 rfl (Nat.le_of_ble_eq_true rfl) dL_law_155 ⟨Nat.le_of_ble_eq_true rfl, Nat.le_of_ble_eq_true rfl⟩ (fun r_155 u_155 H locs hq hP hD hS => ?_)
            obtain ⟨hrv, hJ⟩ := hq
            subst hrv
            have hP : va_P D vwCl ((([] : va_W) ++ u_155)) H := hP
            have hD : va_D A ((([] : va_W) ++ u_155)) := hD
            have c_158 : ¬ (1 : Int32) = 0 := by decide
            refine lv_if_eq (tgt := 210) hx hb dL_law_158 (by decide) (fun q => absurd q c_158) (fun _ => ?_)
            refine lv_aload_n hx hb dL_law_161 rfl (lv_at hl 3 rfl) ?_
            refine lv_iload_n hx hb dL_law_162 rfl (lv_at hl 1 rfl) ?_
            refine lv_iconst (v := 3) hx hb dL_law_163 (by decide) ?_
            refine lv_ishr hx hb dL_law_164 ?_
            refine lv_iload hx hb dL_law_165 (lv_at hl 0 rfl) ?_
            refine cS_i CF hK hN hA hS (cut_id hP hD) (l_low l D cI cZ cW cJ A (([] : va_W) ++ u_155) (r_54 >>> (3 &&& 31)) (nS u_67.1) (⟨by omega, by omega⟩)) (va_cwS 2 hts gL_law_L_low rfl rfl rfl (by decide +kernel) ⟨Nat.le_of_ble_eq_true rfl, Nat.le_of_ble_eq_true rfl⟩) (As := [.int (r_54 >>> (3 &&& 31)), .int (nI (nS u_67.1))]) (rest := [.ref xo]) rfl hl.1 rfl (Nat.le_of_ble_eq_true rfl) dL_law_167 ⟨Nat.le_of_ble_eq_true rfl, Nat.le_of_ble_eq_true rfl⟩ (fun r_167 u_167 H locs hq hP hD hS => ?_)
            obtain ⟨hk_167, hrv⟩ := hq
            subst hrv
            have hP : va_P D vwCl ((([] : va_W) ++ u_155)) H := hP
            have hD : va_D A ((([] : va_W) ++ u_155)) := hD
            refine lv_iload_n hx hb dL_law_170 rfl (lv_at hl 1 rfl) ?_
            refine lv_bipush (v := 7) hx hb dL_law_171 (by decide) ?_
            refine lv_ishr hx hb dL_law_173 ?_
            refine lv_iload hx hb dL_law_174 (lv_at hl 0 rfl) ?_
            refine cS_i CF hK hN hA hS (cut_id hP hD) (l_low l D cI cZ cW cJ A (([] : va_W) ++ u_155) (r_54 >>> (7 &&& 31)) (nS u_67.1) (⟨by omega, by omega⟩)) (va_cwS 2 hts gL_law_L_low rfl rfl rfl (by decide +kernel) ⟨Nat.le_of_ble_eq_true rfl, Nat.le_of_ble_eq_true rfl⟩) (As := [.int (r_54 >>> (7 &&& 31)), .int (nI (nS u_67.1))]) (rest := [.int (nI u_167), .ref xo]) rfl hl.1 rfl (Nat.le_of_ble_eq_true rfl) dL_law_176 ⟨Nat.le_of_ble_eq_true rfl, Nat.le_of_ble_eq_true rfl⟩ (fun r_176 u_176 H locs hq hP hD hS => ?_)
            obtain ⟨hk_176, hrv⟩ := hq
            subst hrv
            have hP : va_P D vwCl ((([] : va_W) ++ u_155)) H := hP
            have hD : va_D A ((([] : va_W) ++ u_155)) := hD
            refine lv_iload_n hx hb dL_law_179 rfl (lv_at hl 1 rfl) ?_
            refine lv_bipush (v := 11) hx hb dL_law_180 (by decide) ?_
            refine lv_ishr hx hb dL_law_182 ?_
            refine lv_iload hx hb dL_law_183 (lv_at hl 0 rfl) ?_
            refine cS_i CF hK hN hA hS (cut_id hP hD) (l_low l D cI cZ cW cJ A (([] : va_W) ++ u_155) (r_54 >>> (11 &&& 31)) (nS u_67.1) (⟨by omega, by omega⟩)) (va_cwS 2 hts gL_law_L_low rfl rfl rfl (by decide +kernel) ⟨Nat.le_of_ble_eq_true rfl, Nat.le_of_ble_eq_true rfl⟩) (As := [.int (r_54 >>> (11 &&& 31)), .int (nI (nS u_67.1))]) (rest := [.int (nI u_176), .int (nI u_167), .ref xo]) rfl hl.1 rfl (Nat.le_of_ble_eq_true rfl) dL_law_185 ⟨Nat.le_of_ble_eq_true rfl, Nat.le_of_ble_eq_true rfl⟩ (fun r_185 u_185 H locs hq hP hD hS => ?_)
            obtain ⟨hk_185, hrv⟩ := hq
            subst hrv
            have hP : va_P D vwCl ((([] : va_W) ++ u_155)) H := hP
            have hD : va_D A ((([] : va_W) ++ u_155)) := hD
            refine cS_i CF hK hN hA hS (cut_id hP hD) (l_isPair l D cI cZ cW cJ A ([] : va_W) xo u_67.1 u_155 u_167 u_176 u_185 hJ hk_167 hk_176 hk_185) (va_cwS 4 hts gL_law_L_isPair rfl rfl rfl (by decide +kernel) ⟨Nat.le_of_ble_eq_true rfl, Nat.le_of_ble_eq_true rfl⟩) (As := [.ref xo, .int (nI u_167), .int (nI u_176), .int (nI u_185)]) (rest := []) rfl hl.1 rfl (Nat.le_of_ble_eq_true rfl) dL_law_188 ⟨Nat.le_of_ble_eq_true rfl, Nat.le_of_ble_eq_true rfl⟩ (fun r_188 u_188 H locs hq hP hD hS => ?_)
            obtain ⟨hrv, hJ⟩ := hq
            subst hrv
            have hP : va_P D vwCl ((([] : va_W) ++ u_188)) H := hP
            have hD : va_D A ((([] : va_W) ++ u_188)) := hD
            have c_191 : ¬ (1 : Int32) = 0 := by decide
            refine lv_if_eq (tgt := 210) hx hb dL_law_191 (by decide) (fun q => absurd q c_191) (fun _ => ?_)
            refine lv_iload_n hx hb dL_law_194 rfl (lv_at hl 2 rfl) ?_
            refine lv_bipush (v := 12) hx hb dL_law_195 (by decide) ?_
            refine lv_irem hx hb dL_law_197 (by decide) ?_
            refine top_i (y := (nI (e9 % 12))) (pk_rem (a := e9) (d := 12) (by omega) (by decide) (by decide)) ?_
            refine lv_bipush (v := 11) hx hb dL_law_198 (by decide) ?_
            refine lv_icmp_ne (tgt := 212) hx hb dL_law_200 (by decide) (fun c_200 => ?_) (fun c_200 => ?_)
            · refine lv_iinc (v := (nI (e9 + 1))) (lv' := [(2, .int (nI (e9 + 1))), (4, .int (nI (nS u_67.1))), (3, .int r_54), (1, .ref xo), (0, .ref b)]) hx hb dL_law_212 hl (k := 2) rfl (nI_1 e9) (by decide) rfl (fun ls hl => ?_)
              refine lv_goto (tgt := 42) hx hb dL_law_215 (by decide) ?_
              exact ih_42 (e9 + 1) u_67.1 u_188 (by omega) (by omega) (hJ) (hLW) _ _ (hP) (hD) hS _ (lv_sub hl [0, 3, 4] rfl)
            · refine lv_aload_n hx hb dL_law_203 rfl (lv_at hl 3 rfl) ?_
              refine cS_i CF hK hN hA hS (cut_id hP hD) (l_isRunner l D cI cZ cW cJ A ([] : va_W) xo u_67.1 u_188 hJ) (va_cwS 1 hts gL_law_L_isRunner rfl rfl rfl (by decide +kernel) ⟨Nat.le_of_ble_eq_true rfl, Nat.le_of_ble_eq_true rfl⟩) (As := [.ref xo]) (rest := []) rfl hl.1 rfl (Nat.le_of_ble_eq_true rfl) dL_law_204 ⟨Nat.le_of_ble_eq_true rfl, Nat.le_of_ble_eq_true rfl⟩ (fun r_204 u_204 H locs hq hP hD hS => ?_)
              obtain ⟨hrv, hJ⟩ := hq
              subst hrv
              have hP : va_P D vwCl ((([] : va_W) ++ u_204)) H := hP
              have hD : va_D A ((([] : va_W) ++ u_204)) := hD
              have c_207 : ¬ (1 : Int32) = 0 := by decide
              refine lv_if_ne (tgt := 212) hx hb dL_law_207 (by decide) (fun _ => ?_) (fun q => absurd q c_207)
              refine lv_iinc (v := (nI (e9 + 1))) (lv' := [(2, .int (nI (e9 + 1))), (4, .int (nI (nS u_67.1))), (3, .int r_54), (1, .ref xo), (0, .ref b)]) hx hb dL_law_212 hl (k := 2) rfl (nI_1 e9) (by decide) rfl (fun ls hl => ?_)
              refine lv_goto (tgt := 42) hx hb dL_law_215 (by decide) ?_
              exact ih_42 (e9 + 1) u_67.1 u_204 (by omega) (by omega) (hJ) (hLW) _ _ (hP) (hD) hS _ (lv_sub hl [0, 3, 4] rfl)
  exact loop_42 _ 0 S0 u_31 (Nat.lt_succ_self _) (Nat.zero_le _) (hJ) (hLW0) _ _ hP hD hS _ (lv_sub hl [0, 1, 2] rfl)
