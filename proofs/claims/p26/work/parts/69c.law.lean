/-! the whole level; the runner's ledges -/
def bkF (S : KS) (k : Nat) : Bool := S.1 (k % 20) (k / 20)
noncomputable def o4N (S : KS) (a : Nat) : Nat := cntB (fun to => !decide (to = a) && RS S 0 a to) (nS S)
theorem o4_le (S : KS) (a : Nat) : o4N S a ≤ outN S a ∧ outN S a ≤ 100 := by
  have hn : nS S ≤ 100 := nL_le _
  refine ⟨cntB_sub (fun i h => ?_) (nS S), Nat.le_trans (cntB_le _ _) hn⟩
  rw [Bool.and_eq_true] at h ⊢
  exact ⟨h.1, RS_mono (by decide) h.2⟩
theorem ledge_own {S : KS} {a lr lc : Nat} (hc : lc < 20) (h : SB (Bk S.1) (20 * lr + (lc + 0)) = true ∧ lgN (SB (Bk S.1)) (20 * lr + (lc + 0)) = a) : cellS S lc lr 2 = nI a := by
  have h1 : stB (Bk S.1) (nI lc) (nI lr) = true := by
    have := h.1
    rw [show 20 * lr + (lc + 0) = 20 * lr + lc by omega, SB_rc hc] at this
    exact this
  rw [(cell_st hc h1).2]
  have := h.2
  rw [show 20 * lr + (lc + 0) = 20 * lr + lc by omega] at this
  rw [this]
noncomputable def awF (S : KS) (b : Nat) : Bool := !rcS S 3 b
set_option maxHeartbeats 4000000 in
set_option maxRecDepth 100000 in
theorem l_holdz (l : Launch) (D : va_G) (cI cZ cW cJ : ClassId) (A : Nat → Prop) (X : va_W) (xo : Nat) (S : KS) (XB : va_W) (mm : Nat) (hJ : YJ cI cZ cW xo S XB) (hLW : LW mm S) (hmm : mm ≤ 40) : Met l yL_holds wsL_holds ({ frames := 7, cells := 0, slots := 0, locals := 167 }) (va_Pc [.ref xo] (wd D (tyL cI cZ cW cJ) A ((X ++ XB)))) (va_Qi (fun (r : Int32) (u : va_W) => r = 1 ∧ YJ cI cZ cW xo S u) (fun (u : va_W) t => wq D A ((X ++ u)) t) A) 0 0 A := by
  refine Met.ofW (cc := cL_holds) (maxL := 7) (ret := (some .boolean)) (by decide) rfl ?_
  intro p e s m args below meth c s₁ B hml hv
  obtain ⟨rfl, hsz9, hP, hK, hD, hN⟩ := hv
  have hx := B.exec
  have hb := B.bytes
  have hr := B.returns
  have hts := atoms_spec (ws := wsL_holds) B.pre
  have hown : s.vm.findClass RL = some m.cls := findClass_of_methodNamed B.named
  have hlocks := B.notSynchronized
  have CF : CallFix p m c cL_holds 7 s _ wsL_holds RL := ⟨hx, hb, hml, hown, hts⟩
  have hA : ∀ q : Nat, s.heap.size ≤ q → A q := hsz9
  have hS : va_S A s.heap s.heap [] := va_S.rf
  have hl := lv_entry ([.ref xo]) (n := 7) (Nat.le_of_ble_eq_true rfl)
  rw [lg_entry_eq]
  generalize (lg_sl ([.ref xo]) ++ List.replicate (7 - (lg_sl ([.ref xo])).length) Slot.unset).toArray = ls at hl ⊢
  have hl : lv_has ls 7 [(0, .ref xo)] := hl
  show W p l e ({ frames := 7, cells := 0, slots := 0, locals := 167 } : Room) s m (([.ref xo] : List Value).toArray) below meth c s.heap [] 0 0 (MQ below (va_Qi (fun (r : Int32) (u : va_W) => r = 1 ∧ YJ cI cZ cW xo S u) (fun (u : va_W) t => wq D A ((X ++ u)) t) A) (([.ref xo] : List Value).toArray) s 0 0 A) (F0 m 0 ls [])
  have hn9 : nS S ≤ 100 := nL_le _
  obtain ⟨la, lb, e5, e6, hle, hla⟩ := id hLW
  have hw1 : S.2.2.1.1 < 20 := hJ.wf.2.1
  have hw2 : S.2.2.1.2 < 10 := hJ.wf.2.2.1
  have hw3 := hJ.wf.2.2.2
  refine lv_iconst (v := 0) hx hb dL_holds_0 (by decide) ?_
  refine lv_istore_n (lv' := [(1, .int 0), (0, .ref xo)]) hx hb dL_holds_1 rfl hl (by decide) rfl (fun ls hl => ?_)
  refine lv_iconst (v := 0) hx hb dL_holds_2 (by decide) ?_
  refine lv_istore_n (lv' := [(2, .int 0), (1, .int 0), (0, .ref xo)]) hx hb dL_holds_3 rfl hl (by decide) rfl (fun ls hl => ?_)
  refine lv_iconst (v := 0) hx hb dL_holds_4 (by decide) ?_
  refine lv_istore_n (lv' := [(3, .int 0), (2, .int 0), (1, .int 0), (0, .ref xo)]) hx hb dL_holds_5 rfl hl (by decide) rfl (fun ls hl => ?_)
  refine lv_iconst (v := 0) hx hb dL_holds_6 (by decide) ?_
  refine lv_istore (lv' := [(4, .int 0), (3, .int 0), (2, .int 0), (1, .int 0), (0, .ref xo)]) hx hb dL_holds_7 hl (by decide) rfl (fun ls hl => ?_)
  refine lv_iconst (v := 0) hx hb dL_holds_9 (by decide) ?_
  refine lv_istore (lv' := [(5, .int 0), (4, .int 0), (3, .int 0), (2, .int 0), (1, .int 0), (0, .ref xo)]) hx hb dL_holds_10 hl (by decide) rfl (fun ls hl => ?_)
  refine lv_iconst (v := 0) hx hb dL_holds_12 (by decide) ?_
  refine lv_istore (lv' := [(6, .int 0), (5, .int 0), (4, .int 0), (3, .int 0), (2, .int 0), (1, .int 0), (0, .ref xo)]) hx hb dL_holds_13 hl (by decide) rfl (fun ls hl => ?_)
  have loop_15 : ∀ (nfu : Nat) (k9 : Nat) (XB9 : va_W) (hn_15 : 200 - k9 < nfu) (hk8 : k9 ≤ 200) (hJ : YJ cI cZ cW xo S XB9) (H : Heap) (locs : List Loc) (hP : va_P D vwCl ((X ++ XB9)) H) (hD : va_D A ((X ++ XB9))) (hS : va_S A s.heap H locs) (ls : Array Slot) (hl : lv_has ls 7 [(6, .int (nI k9)), (5, .int 0), (4, .int 0), (3, .int (nI (cntB (bkF S) k9))), (2, .int (nI (cntB (SB (Bk S.1)) k9))), (1, .int 0), (0, .ref xo)]), W p l e ({ frames := 7, cells := 0, slots := 0, locals := 167 } : Room) s m (([.ref xo] : List Value).toArray) below meth c H locs 0 0 (MQ below (va_Qi (fun (r : Int32) (u : va_W) => r = 1 ∧ YJ cI cZ cW xo S u) (fun (u : va_W) t => wq D A ((X ++ u)) t) A) (([.ref xo] : List Value).toArray) s 0 0 A) (F0 m 15 ls []) := by
    intro nfu
    induction nfu with
    | zero => intro k9 XB9 hn_15; exact absurd hn_15 (Nat.not_lt_zero _)
    | succ nfu ih_15 =>
      intro k9 XB9 hn_15 hk8 hJ H locs hP hD hS ls hl
      refine lv_iload hx hb dL_holds_15 (lv_at hl 0 rfl) ?_
      refine lv_sipush (v := 200) hx hb dL_holds_17 (by decide) ?_
      refine lv_icmp_ge (tgt := 65) hx hb dL_holds_20 (by decide) (fun c_20 => ?_) (fun c_20 => ?_)
      · have hk200 : k9 = 200 := by have := (nI_leI (a := 200) (b := k9) (by decide) (by omega)).mp c_20; omega
        subst hk200
        refine lv_iconst (v := 0) hx hb dL_holds_65 (by decide) ?_
        refine lv_istore (lv' := [(6, .int 0), (5, .int 0), (4, .int 0), (3, .int (nI (cntB (bkF S) 200))), (2, .int (nI (cntB (SB (Bk S.1)) 200))), (1, .int 0), (0, .ref xo)]) hx hb dL_holds_66 hl (by decide) rfl (fun ls hl => ?_)
        have loop_68 : ∀ (nfu : Nat) (k9 : Nat) (XB9 : va_W) (hn_68 : nS S - k9 < nfu) (hk8 : k9 ≤ nS S) (hJ : YJ cI cZ cW xo S XB9) (H : Heap) (locs : List Loc) (hP : va_P D vwCl ((X ++ XB9)) H) (hD : va_D A ((X ++ XB9))) (hS : va_S A s.heap H locs) (ls : Array Slot) (hl : lv_has ls 7 [(6, .int (nI k9)), (5, .int (nI (sumN (inN S) k9))), (4, .int (nI (sumN (outN S) k9))), (3, .int (nI (cntB (bkF S) 200))), (2, .int (nI (cntB (SB (Bk S.1)) 200))), (1, .int (nI (sumN (lenN S) k9))), (0, .ref xo)]), W p l e ({ frames := 7, cells := 0, slots := 0, locals := 167 } : Room) s m (([.ref xo] : List Value).toArray) below meth c H locs 0 0 (MQ below (va_Qi (fun (r : Int32) (u : va_W) => r = 1 ∧ YJ cI cZ cW xo S u) (fun (u : va_W) t => wq D A ((X ++ u)) t) A) (([.ref xo] : List Value).toArray) s 0 0 A) (F0 m 68 ls []) := by
          intro nfu
          induction nfu with
          | zero => intro k9 XB9 hn_68; exact absurd hn_68 (Nat.not_lt_zero _)
          | succ nfu ih_68 =>
            intro k9 XB9 hn_68 hk8 hJ H locs hP hD hS ls hl
            refine lv_iload hx hb dL_holds_68 (lv_at hl 0 rfl) ?_
            refine lv_aload_n hx hb dL_holds_70 rfl (lv_at hl 6 rfl) ?_
            refine lv_iconst (v := 1) hx hb dL_holds_71 (by decide) ?_
            refine cB_i hJ.hd CF hK hN hA hS hP hD (b_count l D cI cZ cW cJ A X xo S XB9 1 (by decide) hJ) (cwV 1 hts gL_holds_X8_count rfl rfl rfl (by decide +kernel) ⟨Nat.le_of_ble_eq_true rfl, Nat.le_of_ble_eq_true rfl⟩) (As := [.int 1]) (rest := [.int (nI k9)]) rfl hl.1 rfl (Nat.le_of_ble_eq_true rfl) dL_holds_72 ⟨Nat.le_of_ble_eq_true rfl, Nat.le_of_ble_eq_true rfl⟩ (fun r_72 u_72 H locs hq hP hD hS => ?_)
            obtain ⟨hrv, hJ⟩ := hq
            subst hrv
            refine top_i (y := (nI (nS S))) rfl ?_
            refine lv_icmp_ge (tgt := 161) hx hb dL_holds_75 (by decide) (fun c_75 => ?_) (fun c_75 => ?_)
            · have hks : k9 = nS S := by have := (nI_leI (a := nS S) (b := k9) (by omega) (by omega)).mp c_75; omega
              refine lv_iload_n hx hb dL_holds_161 rfl (lv_at hl 5 rfl) ?_
              refine lv_iload_n hx hb dL_holds_162 rfl (lv_at hl 4 rfl) ?_
              have c_163 : ((nI (sumN (lenN S) k9)) : Int32) = (nI (cntB (SB (Bk S.1)) 200)) := congrArg nI (by rw [hks]; exact sum_len S)
              refine lv_icmp_ne (tgt := 242) hx hb dL_holds_163 (by decide) (fun q => absurd c_163 q) (fun _ => ?_)
              refine lv_iload_n hx hb dL_holds_166 rfl (lv_at hl 3 rfl) ?_
              refine lv_aload_n hx hb dL_holds_167 rfl (lv_at hl 6 rfl) ?_
              refine lv_iconst (v := 0) hx hb dL_holds_168 (by decide) ?_
              refine cB_i hJ.hd CF hK hN hA hS hP hD (b_count l D cI cZ cW cJ A X xo S u_72 0 (by decide) hJ) (cwV 1 hts gL_holds_X8_count rfl rfl rfl (by decide +kernel) ⟨Nat.le_of_ble_eq_true rfl, Nat.le_of_ble_eq_true rfl⟩) (As := [.int 0]) (rest := [.int (nI (cntB (bkF S) 200))]) rfl hl.1 rfl (Nat.le_of_ble_eq_true rfl) dL_holds_169 ⟨Nat.le_of_ble_eq_true rfl, Nat.le_of_ble_eq_true rfl⟩ (fun r_169 u_169 H locs hq hP hD hS => ?_)
              obtain ⟨hrv, hJ⟩ := hq
              subst hrv
              refine top_i (y := (nI (blkN S.1))) rfl ?_
              have c_172 : ((nI (cntB (bkF S) 200)) : Int32) = (nI (blkN S.1)) := rfl
              refine lv_icmp_ne (tgt := 242) hx hb dL_holds_172 (by decide) (fun q => absurd c_172 q) (fun _ => ?_)
              refine lv_iload hx hb dL_holds_175 (lv_at hl 2 rfl) ?_
              refine lv_iload hx hb dL_holds_177 (lv_at hl 1 rfl) ?_
              have c_179 : ((nI (sumN (outN S) k9)) : Int32) = (nI (sumN (inN S) k9)) := congrArg nI (by rw [hks]; exact sum_io S)
              refine lv_icmp_ne (tgt := 242) hx hb dL_holds_179 (by decide) (fun q => absurd c_179 q) (fun _ => ?_)
              refine lv_aload_n hx hb dL_holds_182 rfl (lv_at hl 6 rfl) ?_
              refine lv_aload_n hx hb dL_holds_183 rfl (lv_at hl 6 rfl) ?_
              refine lv_iconst (v := 2) hx hb dL_holds_184 (by decide) ?_
              refine cB_i hJ.hd CF hK hN hA hS hP hD (b_count l D cI cZ cW cJ A X xo S u_169 2 (by decide) hJ) (cwV 1 hts gL_holds_X8_count rfl rfl rfl (by decide +kernel) ⟨Nat.le_of_ble_eq_true rfl, Nat.le_of_ble_eq_true rfl⟩) (As := [.int 2]) (rest := [.ref xo]) rfl hl.1 rfl (Nat.le_of_ble_eq_true rfl) dL_holds_185 ⟨Nat.le_of_ble_eq_true rfl, Nat.le_of_ble_eq_true rfl⟩ (fun r_185 u_185 H locs hq hP hD hS => ?_)
              obtain ⟨hrv, hJ⟩ := hq
              subst hrv
              refine top_i (y := (nI S.2.2.1.1)) rfl ?_
              refine lv_aload_n hx hb dL_holds_188 rfl (lv_at hl 6 rfl) ?_
              refine lv_iconst (v := 3) hx hb dL_holds_189 (by decide) ?_
              refine cB_i hJ.hd CF hK hN hA hS hP hD (b_count l D cI cZ cW cJ A X xo S u_185 3 (by decide) hJ) (cwV 1 hts gL_holds_X8_count rfl rfl rfl (by decide +kernel) ⟨Nat.le_of_ble_eq_true rfl, Nat.le_of_ble_eq_true rfl⟩) (As := [.int 3]) (rest := [.int (nI S.2.2.1.1), .ref xo]) rfl hl.1 rfl (Nat.le_of_ble_eq_true rfl) dL_holds_190 ⟨Nat.le_of_ble_eq_true rfl, Nat.le_of_ble_eq_true rfl⟩ (fun r_190 u_190 H locs hq hP hD hS => ?_)
              obtain ⟨hrv, hJ⟩ := hq
              subst hrv
              refine top_i (y := (nI S.2.2.1.2)) rfl ?_
              refine lv_iconst (v := 1) hx hb dL_holds_193 (by decide) ?_
              refine cB_i hJ.hd CF hK hN hA hS hP hD (b_cellOf l D cI cZ cW cJ A X xo S u_190 S.2.2.1.1 S.2.2.1.2 1 (by omega) (by omega) (by decide) hJ) (cwV 3 hts gL_holds_X8_cellOf rfl rfl rfl (by decide +kernel) ⟨Nat.le_of_ble_eq_true rfl, Nat.le_of_ble_eq_true rfl⟩) (As := [.int (nI S.2.2.1.1), .int (nI S.2.2.1.2), .int 1]) (rest := []) rfl hl.1 rfl (Nat.le_of_ble_eq_true rfl) dL_holds_194 ⟨Nat.le_of_ble_eq_true rfl, Nat.le_of_ble_eq_true rfl⟩ (fun r_194 u_194 H locs hq hP hD hS => ?_)
              obtain ⟨hrv, hJ⟩ := hq
              subst hrv
              refine top_i (y := 1) ((cell_st hw1 hw3).1) ?_
              refine lv_iconst (v := 1) hx hb dL_holds_197 (by decide) ?_
              have c_198 : (1 : Int32) = 1 := rfl
              refine lv_icmp_ne (tgt := 242) hx hb dL_holds_198 (by decide) (fun q => absurd c_198 q) (fun _ => ?_)
              refine lv_aload_n hx hb dL_holds_201 rfl (lv_at hl 6 rfl) ?_
              refine lv_aload_n hx hb dL_holds_202 rfl (lv_at hl 6 rfl) ?_
              refine lv_iconst (v := 2) hx hb dL_holds_203 (by decide) ?_
              refine cB_i hJ.hd CF hK hN hA hS hP hD (b_count l D cI cZ cW cJ A X xo S u_194 2 (by decide) hJ) (cwV 1 hts gL_holds_X8_count rfl rfl rfl (by decide +kernel) ⟨Nat.le_of_ble_eq_true rfl, Nat.le_of_ble_eq_true rfl⟩) (As := [.int 2]) (rest := [.ref xo]) rfl hl.1 rfl (Nat.le_of_ble_eq_true rfl) dL_holds_204 ⟨Nat.le_of_ble_eq_true rfl, Nat.le_of_ble_eq_true rfl⟩ (fun r_204 u_204 H locs hq hP hD hS => ?_)
              obtain ⟨hrv, hJ⟩ := hq
              subst hrv
              refine top_i (y := (nI S.2.2.1.1)) rfl ?_
              refine lv_aload_n hx hb dL_holds_207 rfl (lv_at hl 6 rfl) ?_
              refine lv_iconst (v := 3) hx hb dL_holds_208 (by decide) ?_
              refine cB_i hJ.hd CF hK hN hA hS hP hD (b_count l D cI cZ cW cJ A X xo S u_204 3 (by decide) hJ) (cwV 1 hts gL_holds_X8_count rfl rfl rfl (by decide +kernel) ⟨Nat.le_of_ble_eq_true rfl, Nat.le_of_ble_eq_true rfl⟩) (As := [.int 3]) (rest := [.int (nI S.2.2.1.1), .ref xo]) rfl hl.1 rfl (Nat.le_of_ble_eq_true rfl) dL_holds_209 ⟨Nat.le_of_ble_eq_true rfl, Nat.le_of_ble_eq_true rfl⟩ (fun r_209 u_209 H locs hq hP hD hS => ?_)
              obtain ⟨hrv, hJ⟩ := hq
              subst hrv
              refine top_i (y := (nI S.2.2.1.2)) rfl ?_
              refine lv_iconst (v := 2) hx hb dL_holds_212 (by decide) ?_
              refine cB_i hJ.hd CF hK hN hA hS hP hD (b_cellOf l D cI cZ cW cJ A X xo S u_209 S.2.2.1.1 S.2.2.1.2 2 (by omega) (by omega) (by decide) hJ) (cwV 3 hts gL_holds_X8_cellOf rfl rfl rfl (by decide +kernel) ⟨Nat.le_of_ble_eq_true rfl, Nat.le_of_ble_eq_true rfl⟩) (As := [.int (nI S.2.2.1.1), .int (nI S.2.2.1.2), .int 2]) (rest := []) rfl hl.1 rfl (Nat.le_of_ble_eq_true rfl) dL_holds_213 ⟨Nat.le_of_ble_eq_true rfl, Nat.le_of_ble_eq_true rfl⟩ (fun r_213 u_213 H locs hq hP hD hS => ?_)
              obtain ⟨hrv, hJ⟩ := hq
              subst hrv
              refine top_i (y := (nI (owS S))) ((cell_st hw1 hw3).2) ?_
              refine lv_aload_n hx hb dL_holds_216 rfl (lv_at hl 6 rfl) ?_
              refine lv_iconst (v := 4) hx hb dL_holds_217 (by decide) ?_
              refine cB_i hJ.hd CF hK hN hA hS hP hD (b_count l D cI cZ cW cJ A X xo S u_213 4 (by decide) hJ) (cwV 1 hts gL_holds_X8_count rfl rfl rfl (by decide +kernel) ⟨Nat.le_of_ble_eq_true rfl, Nat.le_of_ble_eq_true rfl⟩) (As := [.int 4]) (rest := [.int (nI (owS S))]) rfl hl.1 rfl (Nat.le_of_ble_eq_true rfl) dL_holds_218 ⟨Nat.le_of_ble_eq_true rfl, Nat.le_of_ble_eq_true rfl⟩ (fun r_218 u_218 H locs hq hP hD hS => ?_)
              obtain ⟨hrv, hJ⟩ := hq
              subst hrv
              refine top_i (y := (nI (owS S))) rfl ?_
              have c_221 : ((nI (owS S)) : Int32) = (nI (owS S)) := rfl
              refine lv_icmp_ne (tgt := 242) hx hb dL_holds_221 (by decide) (fun q => absurd c_221 q) (fun _ => ?_)
              refine lv_aload_n hx hb dL_holds_224 rfl (lv_at hl 6 rfl) ?_
              refine lv_bipush (v := 6) hx hb dL_holds_225 (by decide) ?_
              refine cB_i hJ.hd CF hK hN hA hS hP hD (b_count l D cI cZ cW cJ A X xo S u_218 6 (by decide) hJ) (cwV 1 hts gL_holds_X8_count rfl rfl rfl (by decide +kernel) ⟨Nat.le_of_ble_eq_true rfl, Nat.le_of_ble_eq_true rfl⟩) (As := [.int 6]) (rest := []) rfl hl.1 rfl (Nat.le_of_ble_eq_true rfl) dL_holds_227 ⟨Nat.le_of_ble_eq_true rfl, Nat.le_of_ble_eq_true rfl⟩ (fun r_227 u_227 H locs hq hP hD hS => ?_)
              obtain ⟨hrv, hJ⟩ := hq
              subst hrv
              refine top_i (y := (nI lb)) e6 ?_
              refine lv_aload_n hx hb dL_holds_230 rfl (lv_at hl 6 rfl) ?_
              refine lv_iconst (v := 5) hx hb dL_holds_231 (by decide) ?_
              refine cB_i hJ.hd CF hK hN hA hS hP hD (b_count l D cI cZ cW cJ A X xo S u_227 5 (by decide) hJ) (cwV 1 hts gL_holds_X8_count rfl rfl rfl (by decide +kernel) ⟨Nat.le_of_ble_eq_true rfl, Nat.le_of_ble_eq_true rfl⟩) (As := [.int 5]) (rest := [.int (nI lb)]) rfl hl.1 rfl (Nat.le_of_ble_eq_true rfl) dL_holds_232 ⟨Nat.le_of_ble_eq_true rfl, Nat.le_of_ble_eq_true rfl⟩ (fun r_232 u_232 H locs hq hP hD hS => ?_)
              obtain ⟨hrv, hJ⟩ := hq
              subst hrv
              refine top_i (y := (nI la)) e5 ?_
              have c_235 : ¬ ((nI la) : Int32) < (nI lb) := nI_lt0 (by omega) (by omega) hle
              refine lv_icmp_gt (tgt := 242) hx hb dL_holds_235 (by decide) (fun q => absurd q c_235) (fun _ => ?_)
              refine lv_iconst (v := 1) hx hb dL_holds_238 (by decide) ?_
              refine lv_goto (tgt := 243) hx hb dL_holds_239 (by decide) ?_
              exact W.zret (v := 1) (ty := .boolean) hx hb hr (rfl) (fun t9 ht9 hW9 => ⟨⟨1, u_232, rfl, ⟨rfl, hJ⟩, by rw [ht9]; exact hP, hD⟩, hS.F ht9⟩) hS.2.2 dL_holds_243
            · have hk9 : k9 < nS S := lt_of_nge (by omega) (by omega) c_75
              obtain ⟨lr, lc, ln, hlr, hln, hlc, f0, f1, f2, hA1, hA2⟩ := ledge_run hk9
              have hcl : cellS S lc lr 2 = nI k9 := ledge_own (by omega) (hA1 0 (by omega))
              obtain ⟨ho1, ho2⟩ := o4_le S k9
              refine lv_iload_n hx hb dL_holds_78 rfl (lv_at hl 5 rfl) ?_
              refine lv_aload_n hx hb dL_holds_79 rfl (lv_at hl 6 rfl) ?_
              refine lv_iload hx hb dL_holds_80 (lv_at hl 0 rfl) ?_
              refine lv_iconst (v := 2) hx hb dL_holds_82 (by decide) ?_
              refine cB_i hJ.hd CF hK hN hA hS hP hD (b_ledgeOf l D cI cZ cW cJ A X xo S u_72 k9 2 (by omega) (by decide) hJ) (cwV 2 hts gL_holds_X8_ledgeOf rfl rfl rfl (by decide +kernel) ⟨Nat.le_of_ble_eq_true rfl, Nat.le_of_ble_eq_true rfl⟩) (As := [.int (nI k9), .int 2]) (rest := [.int (nI (sumN (lenN S) k9))]) rfl hl.1 rfl (Nat.le_of_ble_eq_true rfl) dL_holds_83 ⟨Nat.le_of_ble_eq_true rfl, Nat.le_of_ble_eq_true rfl⟩ (fun r_83 u_83 H locs hq hP hD hS => ?_)
              obtain ⟨hrv, hJ⟩ := hq
              subst hrv
              refine top_i (y := (nI (lenN S k9))) (ledge_len hk9) ?_
              refine lv_iadd hx hb dL_holds_86 ?_
              refine top_i (y := (nI (sumN (lenN S) (k9 + 1)))) (nI_add _ _) ?_
              refine lv_istore_n (lv' := [(1, .int (nI (sumN (lenN S) (k9 + 1)))), (6, .int (nI k9)), (5, .int (nI (sumN (inN S) k9))), (4, .int (nI (sumN (outN S) k9))), (3, .int (nI (cntB (bkF S) 200))), (2, .int (nI (cntB (SB (Bk S.1)) 200))), (0, .ref xo)]) hx hb dL_holds_87 rfl hl (by decide) rfl (fun ls hl => ?_)
              refine lv_iload hx hb dL_holds_88 (lv_at hl 3 rfl) ?_
              refine lv_aload_n hx hb dL_holds_90 rfl (lv_at hl 6 rfl) ?_
              refine lv_iload hx hb dL_holds_91 (lv_at hl 1 rfl) ?_
              refine lv_iconst (v := 3) hx hb dL_holds_93 (by decide) ?_
              refine cB_i hJ.hd CF hK hN hA hS hP hD (b_ledgeOf l D cI cZ cW cJ A X xo S u_83 k9 3 (by omega) (by decide) hJ) (cwV 2 hts gL_holds_X8_ledgeOf rfl rfl rfl (by decide +kernel) ⟨Nat.le_of_ble_eq_true rfl, Nat.le_of_ble_eq_true rfl⟩) (As := [.int (nI k9), .int 3]) (rest := [.int (nI (sumN (outN S) k9))]) rfl hl.1 rfl (Nat.le_of_ble_eq_true rfl) dL_holds_94 ⟨Nat.le_of_ble_eq_true rfl, Nat.le_of_ble_eq_true rfl⟩ (fun r_94 u_94 H locs hq hP hD hS => ?_)
              obtain ⟨hrv, hJ⟩ := hq
              subst hrv
              refine top_i (y := (nI (outN S k9))) rfl ?_
              refine lv_iadd hx hb dL_holds_97 ?_
              refine top_i (y := (nI (sumN (outN S) (k9 + 1)))) (nI_add _ _) ?_
              refine lv_istore (lv' := [(4, .int (nI (sumN (outN S) (k9 + 1)))), (1, .int (nI (sumN (lenN S) (k9 + 1)))), (6, .int (nI k9)), (5, .int (nI (sumN (inN S) k9))), (3, .int (nI (cntB (bkF S) 200))), (2, .int (nI (cntB (SB (Bk S.1)) 200))), (0, .ref xo)]) hx hb dL_holds_98 hl (by decide) rfl (fun ls hl => ?_)
              refine lv_iload hx hb dL_holds_100 (lv_at hl 3 rfl) ?_
              refine lv_aload_n hx hb dL_holds_102 rfl (lv_at hl 6 rfl) ?_
              refine lv_iload hx hb dL_holds_103 (lv_at hl 2 rfl) ?_
              refine lv_iconst (v := 5) hx hb dL_holds_105 (by decide) ?_
              refine cB_i hJ.hd CF hK hN hA hS hP hD (b_ledgeOf l D cI cZ cW cJ A X xo S u_94 k9 5 (by omega) (by decide) hJ) (cwV 2 hts gL_holds_X8_ledgeOf rfl rfl rfl (by decide +kernel) ⟨Nat.le_of_ble_eq_true rfl, Nat.le_of_ble_eq_true rfl⟩) (As := [.int (nI k9), .int 5]) (rest := [.int (nI (sumN (inN S) k9))]) rfl hl.1 rfl (Nat.le_of_ble_eq_true rfl) dL_holds_106 ⟨Nat.le_of_ble_eq_true rfl, Nat.le_of_ble_eq_true rfl⟩ (fun r_106 u_106 H locs hq hP hD hS => ?_)
              obtain ⟨hrv, hJ⟩ := hq
              subst hrv
              refine top_i (y := (nI (inN S k9))) rfl ?_
              refine lv_iadd hx hb dL_holds_109 ?_
              refine top_i (y := (nI (sumN (inN S) (k9 + 1)))) (nI_add _ _) ?_
              refine lv_istore (lv' := [(5, .int (nI (sumN (inN S) (k9 + 1)))), (4, .int (nI (sumN (outN S) (k9 + 1)))), (1, .int (nI (sumN (lenN S) (k9 + 1)))), (6, .int (nI k9)), (3, .int (nI (cntB (bkF S) 200))), (2, .int (nI (cntB (SB (Bk S.1)) 200))), (0, .ref xo)]) hx hb dL_holds_110 hl (by decide) rfl (fun ls hl => ?_)
              refine lv_aload_n hx hb dL_holds_112 rfl (lv_at hl 6 rfl) ?_
              refine lv_iload hx hb dL_holds_113 (lv_at hl 3 rfl) ?_
              refine lv_iconst (v := 4) hx hb dL_holds_115 (by decide) ?_
              refine cB_i hJ.hd CF hK hN hA hS hP hD (b_ledgeOf l D cI cZ cW cJ A X xo S u_106 k9 4 (by omega) (by decide) hJ) (cwV 2 hts gL_holds_X8_ledgeOf rfl rfl rfl (by decide +kernel) ⟨Nat.le_of_ble_eq_true rfl, Nat.le_of_ble_eq_true rfl⟩) (As := [.int (nI k9), .int 4]) (rest := []) rfl hl.1 rfl (Nat.le_of_ble_eq_true rfl) dL_holds_116 ⟨Nat.le_of_ble_eq_true rfl, Nat.le_of_ble_eq_true rfl⟩ (fun r_116 u_116 H locs hq hP hD hS => ?_)
              obtain ⟨hrv, hJ⟩ := hq
              subst hrv
              refine top_i (y := (nI (o4N S k9))) rfl ?_
              refine lv_aload_n hx hb dL_holds_119 rfl (lv_at hl 6 rfl) ?_
              refine lv_iload hx hb dL_holds_120 (lv_at hl 3 rfl) ?_
              refine lv_iconst (v := 3) hx hb dL_holds_122 (by decide) ?_
              refine cB_i hJ.hd CF hK hN hA hS hP hD (b_ledgeOf l D cI cZ cW cJ A X xo S u_116 k9 3 (by omega) (by decide) hJ) (cwV 2 hts gL_holds_X8_ledgeOf rfl rfl rfl (by decide +kernel) ⟨Nat.le_of_ble_eq_true rfl, Nat.le_of_ble_eq_true rfl⟩) (As := [.int (nI k9), .int 3]) (rest := [.int (nI (o4N S k9))]) rfl hl.1 rfl (Nat.le_of_ble_eq_true rfl) dL_holds_123 ⟨Nat.le_of_ble_eq_true rfl, Nat.le_of_ble_eq_true rfl⟩ (fun r_123 u_123 H locs hq hP hD hS => ?_)
              obtain ⟨hrv, hJ⟩ := hq
              subst hrv
              refine top_i (y := (nI (outN S k9))) rfl ?_
              have c_126 : ¬ ((nI (outN S k9)) : Int32) < (nI (o4N S k9)) := nI_lt0 (by omega) (by omega) ho1
              refine lv_icmp_gt (tgt := 153) hx hb dL_holds_126 (by decide) (fun q => absurd q c_126) (fun _ => ?_)
              refine lv_aload_n hx hb dL_holds_129 rfl (lv_at hl 6 rfl) ?_
              refine lv_aload_n hx hb dL_holds_130 rfl (lv_at hl 6 rfl) ?_
              refine lv_iload hx hb dL_holds_131 (lv_at hl 3 rfl) ?_
              refine lv_iconst (v := 1) hx hb dL_holds_133 (by decide) ?_
              refine cB_i hJ.hd CF hK hN hA hS hP hD (b_ledgeOf l D cI cZ cW cJ A X xo S u_123 k9 1 (by omega) (by decide) hJ) (cwV 2 hts gL_holds_X8_ledgeOf rfl rfl rfl (by decide +kernel) ⟨Nat.le_of_ble_eq_true rfl, Nat.le_of_ble_eq_true rfl⟩) (As := [.int (nI k9), .int 1]) (rest := [.ref xo]) rfl hl.1 rfl (Nat.le_of_ble_eq_true rfl) dL_holds_134 ⟨Nat.le_of_ble_eq_true rfl, Nat.le_of_ble_eq_true rfl⟩ (fun r_134 u_134 H locs hq hP hD hS => ?_)
              obtain ⟨hrv, hJ⟩ := hq
              subst hrv
              refine top_i (y := (nI lc)) f1 ?_
              refine lv_aload_n hx hb dL_holds_137 rfl (lv_at hl 6 rfl) ?_
              refine lv_iload hx hb dL_holds_138 (lv_at hl 3 rfl) ?_
              refine lv_iconst (v := 0) hx hb dL_holds_140 (by decide) ?_
              refine cB_i hJ.hd CF hK hN hA hS hP hD (b_ledgeOf l D cI cZ cW cJ A X xo S u_134 k9 0 (by omega) (by decide) hJ) (cwV 2 hts gL_holds_X8_ledgeOf rfl rfl rfl (by decide +kernel) ⟨Nat.le_of_ble_eq_true rfl, Nat.le_of_ble_eq_true rfl⟩) (As := [.int (nI k9), .int 0]) (rest := [.int (nI lc), .ref xo]) rfl hl.1 rfl (Nat.le_of_ble_eq_true rfl) dL_holds_141 ⟨Nat.le_of_ble_eq_true rfl, Nat.le_of_ble_eq_true rfl⟩ (fun r_141 u_141 H locs hq hP hD hS => ?_)
              obtain ⟨hrv, hJ⟩ := hq
              subst hrv
              refine top_i (y := (nI lr)) f0 ?_
              refine lv_iconst (v := 2) hx hb dL_holds_144 (by decide) ?_
              refine cB_i hJ.hd CF hK hN hA hS hP hD (b_cellOf l D cI cZ cW cJ A X xo S u_141 lc lr 2 (by omega) (by omega) (by decide) hJ) (cwV 3 hts gL_holds_X8_cellOf rfl rfl rfl (by decide +kernel) ⟨Nat.le_of_ble_eq_true rfl, Nat.le_of_ble_eq_true rfl⟩) (As := [.int (nI lc), .int (nI lr), .int 2]) (rest := []) rfl hl.1 rfl (Nat.le_of_ble_eq_true rfl) dL_holds_145 ⟨Nat.le_of_ble_eq_true rfl, Nat.le_of_ble_eq_true rfl⟩ (fun r_145 u_145 H locs hq hP hD hS => ?_)
              obtain ⟨hrv, hJ⟩ := hq
              subst hrv
              refine top_i (y := (nI k9)) hcl ?_
              refine lv_iload hx hb dL_holds_148 (lv_at hl 3 rfl) ?_
              have c_150 : ((nI k9) : Int32) = (nI k9) := rfl
              refine lv_icmp_eq (tgt := 155) hx hb dL_holds_150 (by decide) (fun _ => ?_) (fun q => absurd c_150 q)
              refine lv_iinc (v := (nI (k9 + 1))) (lv' := [(6, .int (nI (k9 + 1))), (5, .int (nI (sumN (inN S) (k9 + 1)))), (4, .int (nI (sumN (outN S) (k9 + 1)))), (1, .int (nI (sumN (lenN S) (k9 + 1)))), (3, .int (nI (cntB (bkF S) 200))), (2, .int (nI (cntB (SB (Bk S.1)) 200))), (0, .ref xo)]) hx hb dL_holds_155 hl (k := 3) rfl (nI_1 k9) (by decide) rfl (fun ls hl => ?_)
              refine lv_goto (tgt := 68) hx hb dL_holds_158 (by decide) ?_
              exact ih_68 (k9 + 1) u_145 (by omega) (by omega) (hJ) _ _ (hP) (hD) hS _ (lv_sub hl [0, 1, 2, 4, 5, 3, 6] rfl)
        exact loop_68 _ 0 XB9 (Nat.lt_succ_self _) (Nat.zero_le _) (hJ) _ _ hP hD hS _ (lv_sub hl [0, 1, 2, 3, 4, 5, 6] rfl)
      · have hk9 : k9 < 200 := lt_of_nge (a := 200) (b := k9) (by decide) (by omega) c_20
        refine lv_iload_n hx hb dL_holds_23 rfl (lv_at hl 4 rfl) ?_
        refine lv_aload_n hx hb dL_holds_24 rfl (lv_at hl 6 rfl) ?_
        refine lv_iload hx hb dL_holds_25 (lv_at hl 0 rfl) ?_
        refine lv_bipush (v := 20) hx hb dL_holds_27 (by decide) ?_
        refine lv_irem hx hb dL_holds_29 (by decide) ?_
        refine top_i (y := (nI (k9 % 20))) (pk_rem (a := k9) (d := 20) (by omega) (by decide) (by decide)) ?_
        refine lv_iload hx hb dL_holds_30 (lv_at hl 0 rfl) ?_
        refine lv_bipush (v := 20) hx hb dL_holds_32 (by decide) ?_
        refine lv_idiv hx hb dL_holds_34 (by decide) ?_
        refine top_i (y := (nI (k9 / 20))) (pk_div (a := k9) (d := 20) (by omega) (by decide) (by decide)) ?_
        refine lv_iconst (v := 1) hx hb dL_holds_35 (by decide) ?_
        refine cB_i hJ.hd CF hK hN hA hS hP hD (b_cellOf l D cI cZ cW cJ A X xo S XB9 (k9 % 20) (k9 / 20) 1 (by omega) (by omega) (by decide) hJ) (cwV 3 hts gL_holds_X8_cellOf rfl rfl rfl (by decide +kernel) ⟨Nat.le_of_ble_eq_true rfl, Nat.le_of_ble_eq_true rfl⟩) (As := [.int (nI (k9 % 20)), .int (nI (k9 / 20)), .int 1]) (rest := [.int (nI (cntB (SB (Bk S.1)) k9))]) rfl hl.1 rfl (Nat.le_of_ble_eq_true rfl) dL_holds_36 ⟨Nat.le_of_ble_eq_true rfl, Nat.le_of_ble_eq_true rfl⟩ (fun r_36 u_36 H locs hq hP hD hS => ?_)
        obtain ⟨hrv, hJ⟩ := hq
        subst hrv
        refine lv_iadd hx hb dL_holds_39 ?_
        refine top_i (y := (nI (cntB (SB (Bk S.1)) (k9 + 1)))) (cnt_add (SB (Bk S.1)) k9) ?_
        refine lv_istore_n (lv' := [(2, .int (nI (cntB (SB (Bk S.1)) (k9 + 1)))), (6, .int (nI k9)), (5, .int 0), (4, .int 0), (3, .int (nI (cntB (bkF S) k9))), (1, .int 0), (0, .ref xo)]) hx hb dL_holds_40 rfl hl (by decide) rfl (fun ls hl => ?_)
        refine lv_iload_n hx hb dL_holds_41 rfl (lv_at hl 4 rfl) ?_
        refine lv_aload_n hx hb dL_holds_42 rfl (lv_at hl 6 rfl) ?_
        refine lv_iload hx hb dL_holds_43 (lv_at hl 1 rfl) ?_
        refine lv_bipush (v := 20) hx hb dL_holds_45 (by decide) ?_
        refine lv_irem hx hb dL_holds_47 (by decide) ?_
        refine top_i (y := (nI (k9 % 20))) (pk_rem (a := k9) (d := 20) (by omega) (by decide) (by decide)) ?_
        refine lv_iload hx hb dL_holds_48 (lv_at hl 1 rfl) ?_
        refine lv_bipush (v := 20) hx hb dL_holds_50 (by decide) ?_
        refine lv_idiv hx hb dL_holds_52 (by decide) ?_
        refine top_i (y := (nI (k9 / 20))) (pk_div (a := k9) (d := 20) (by omega) (by decide) (by decide)) ?_
        refine lv_iconst (v := 0) hx hb dL_holds_53 (by decide) ?_
        refine cB_i hJ.hd CF hK hN hA hS hP hD (b_cellOf l D cI cZ cW cJ A X xo S u_36 (k9 % 20) (k9 / 20) 0 (by omega) (by omega) (by decide) hJ) (cwV 3 hts gL_holds_X8_cellOf rfl rfl rfl (by decide +kernel) ⟨Nat.le_of_ble_eq_true rfl, Nat.le_of_ble_eq_true rfl⟩) (As := [.int (nI (k9 % 20)), .int (nI (k9 / 20)), .int 0]) (rest := [.int (nI (cntB (bkF S) k9))]) rfl hl.1 rfl (Nat.le_of_ble_eq_true rfl) dL_holds_54 ⟨Nat.le_of_ble_eq_true rfl, Nat.le_of_ble_eq_true rfl⟩ (fun r_54 u_54 H locs hq hP hD hS => ?_)
        obtain ⟨hrv, hJ⟩ := hq
        subst hrv
        refine lv_iadd hx hb dL_holds_57 ?_
        refine top_i (y := (nI (cntB (bkF S) (k9 + 1)))) (by rw [cell_0 hk9]; exact cnt_add (bkF S) k9) ?_
        refine lv_istore_n (lv' := [(3, .int (nI (cntB (bkF S) (k9 + 1)))), (2, .int (nI (cntB (SB (Bk S.1)) (k9 + 1)))), (6, .int (nI k9)), (5, .int 0), (4, .int 0), (1, .int 0), (0, .ref xo)]) hx hb dL_holds_58 rfl hl (by decide) rfl (fun ls hl => ?_)
        refine lv_iinc (v := (nI (k9 + 1))) (lv' := [(6, .int (nI (k9 + 1))), (3, .int (nI (cntB (bkF S) (k9 + 1)))), (2, .int (nI (cntB (SB (Bk S.1)) (k9 + 1)))), (5, .int 0), (4, .int 0), (1, .int 0), (0, .ref xo)]) hx hb dL_holds_59 hl (k := 2) rfl (nI_1 k9) (by decide) rfl (fun ls hl => ?_)
        refine lv_goto (tgt := 15) hx hb dL_holds_62 (by decide) ?_
        exact ih_15 (k9 + 1) u_54 (by omega) (by omega) (hJ) _ _ (hP) (hD) hS _ (lv_sub hl [0, 3, 4, 1, 2, 5, 6] rfl)
  exact loop_15 _ 0 XB (Nat.lt_succ_self _) (by omega) (hJ) _ _ hP hD hS _ (lv_sub hl [0, 1, 2, 3, 4, 5, 6] rfl)
set_option maxHeartbeats 4000000 in
set_option maxRecDepth 100000 in
theorem l_isRunner (l : Launch) (D : va_G) (cI cZ cW cJ : ClassId) (A : Nat → Prop) (X : va_W) (xo : Nat) (S : KS) (XB : va_W) (hJ : YJ cI cZ cW xo S XB) : Met l yL_isRunner wsL_isRunner ({ frames := 7, cells := 0, slots := 0, locals := 169 }) (va_Pc [.ref xo] (wd D (tyL cI cZ cW cJ) A ((X ++ XB)))) (va_Qi (fun (r : Int32) (u : va_W) => r = 1 ∧ YJ cI cZ cW xo S u) (fun (u : va_W) t => wq D A ((X ++ u)) t) A) 0 0 A := by
  refine Met.ofW (cc := cL_isRunner) (maxL := 7) (ret := (some .boolean)) (by decide) rfl ?_
  intro p e s m args below meth c s₁ B hml hv
  obtain ⟨rfl, hsz9, hP, hK, hD, hN⟩ := hv
  have hx := B.exec
  have hb := B.bytes
  have hr := B.returns
  have hts := atoms_spec (ws := wsL_isRunner) B.pre
  have hown : s.vm.findClass RL = some m.cls := findClass_of_methodNamed B.named
  have hlocks := B.notSynchronized
  have CF : CallFix p m c cL_isRunner 7 s _ wsL_isRunner RL := ⟨hx, hb, hml, hown, hts⟩
  have hA : ∀ q : Nat, s.heap.size ≤ q → A q := hsz9
  have hS : va_S A s.heap s.heap [] := va_S.rf
  have hl := lv_entry ([.ref xo]) (n := 7) (Nat.le_of_ble_eq_true rfl)
  rw [lg_entry_eq]
  generalize (lg_sl ([.ref xo]) ++ List.replicate (7 - (lg_sl ([.ref xo])).length) Slot.unset).toArray = ls at hl ⊢
  have hl : lv_has ls 7 [(0, .ref xo)] := hl
  show W p l e ({ frames := 7, cells := 0, slots := 0, locals := 169 } : Room) s m (([.ref xo] : List Value).toArray) below meth c s.heap [] 0 0 (MQ below (va_Qi (fun (r : Int32) (u : va_W) => r = 1 ∧ YJ cI cZ cW xo S u) (fun (u : va_W) t => wq D A ((X ++ u)) t) A) (([.ref xo] : List Value).toArray) s 0 0 A) (F0 m 0 ls [])
  have hn9 : nS S ≤ 100 := nL_le _
  have how := (owS_lt hJ.wf).1
  refine lv_aload_n hx hb dL_isRunner_0 rfl (lv_at hl 0 rfl) ?_
  refine lv_iconst (v := 1) hx hb dL_isRunner_1 (by decide) ?_
  refine cB_i hJ.hd CF hK hN hA hS hP hD (b_count l D cI cZ cW cJ A X xo S XB 1 (by decide) hJ) (cwV 1 hts gL_isRunner_X8_count rfl rfl rfl (by decide +kernel) ⟨Nat.le_of_ble_eq_true rfl, Nat.le_of_ble_eq_true rfl⟩) (As := [.int 1]) (rest := []) rfl hl.1 rfl (Nat.le_of_ble_eq_true rfl) dL_isRunner_2 ⟨Nat.le_of_ble_eq_true rfl, Nat.le_of_ble_eq_true rfl⟩ (fun r_2 u_2 H locs hq hP hD hS => ?_)
  obtain ⟨hrv, hJ⟩ := hq
  subst hrv
  refine top_i (y := (nI (nS S))) rfl ?_
  refine lv_istore_n (lv' := [(1, .int (nI (nS S))), (0, .ref xo)]) hx hb dL_isRunner_5 rfl hl (by decide) rfl (fun ls hl => ?_)
  refine lv_aload_n hx hb dL_isRunner_6 rfl (lv_at hl 1 rfl) ?_
  refine lv_iconst (v := 4) hx hb dL_isRunner_7 (by decide) ?_
  refine cB_i hJ.hd CF hK hN hA hS hP hD (b_count l D cI cZ cW cJ A X xo S u_2 4 (by decide) hJ) (cwV 1 hts gL_isRunner_X8_count rfl rfl rfl (by decide +kernel) ⟨Nat.le_of_ble_eq_true rfl, Nat.le_of_ble_eq_true rfl⟩) (As := [.int 4]) (rest := []) rfl hl.1 rfl (Nat.le_of_ble_eq_true rfl) dL_isRunner_8 ⟨Nat.le_of_ble_eq_true rfl, Nat.le_of_ble_eq_true rfl⟩ (fun r_8 u_8 H locs hq hP hD hS => ?_)
  obtain ⟨hrv, hJ⟩ := hq
  subst hrv
  refine top_i (y := (nI (owS S))) rfl ?_
  refine lv_istore_n (lv' := [(2, .int (nI (owS S))), (1, .int (nI (nS S))), (0, .ref xo)]) hx hb dL_isRunner_11 rfl hl (by decide) rfl (fun ls hl => ?_)
  refine lv_iconst (v := 0) hx hb dL_isRunner_12 (by decide) ?_
  refine lv_istore_n (lv' := [(3, .int 0), (2, .int (nI (owS S))), (1, .int (nI (nS S))), (0, .ref xo)]) hx hb dL_isRunner_13 rfl hl (by decide) rfl (fun ls hl => ?_)
  refine lv_iconst (v := 0) hx hb dL_isRunner_14 (by decide) ?_
  refine lv_istore (lv' := [(4, .int 0), (3, .int 0), (2, .int (nI (owS S))), (1, .int (nI (nS S))), (0, .ref xo)]) hx hb dL_isRunner_15 hl (by decide) rfl (fun ls hl => ?_)
  refine lv_iconst (v := 0) hx hb dL_isRunner_17 (by decide) ?_
  refine lv_istore (lv' := [(5, .int 0), (4, .int 0), (3, .int 0), (2, .int (nI (owS S))), (1, .int (nI (nS S))), (0, .ref xo)]) hx hb dL_isRunner_18 hl (by decide) rfl (fun ls hl => ?_)
  have loop_20 : ∀ (nfu : Nat) (k9 aw rk : Nat) (XB9 : va_W) (hn_20 : nS S - k9 < nfu) (hk8 : k9 ≤ nS S) (haw : aw = cntB (awF S) k9) (hrk : rk = cntB (pOn S) k9) (hJ : YJ cI cZ cW xo S XB9) (H : Heap) (locs : List Loc) (hP : va_P D vwCl ((X ++ XB9)) H) (hD : va_D A ((X ++ XB9))) (hS : va_S A s.heap H locs) (ls : Array Slot) (hl : lv_has ls 7 [(5, .int (nI k9)), (4, .int (nI rk)), (3, .int (nI aw)), (2, .int (nI (owS S))), (1, .int (nI (nS S))), (0, .ref xo)]), W p l e ({ frames := 7, cells := 0, slots := 0, locals := 169 } : Room) s m (([.ref xo] : List Value).toArray) below meth c H locs 0 0 (MQ below (va_Qi (fun (r : Int32) (u : va_W) => r = 1 ∧ YJ cI cZ cW xo S u) (fun (u : va_W) t => wq D A ((X ++ u)) t) A) (([.ref xo] : List Value).toArray) s 0 0 A) (F0 m 20 ls []) := by
    intro nfu
    induction nfu with
    | zero => intro k9 aw rk XB9 hn_20; exact absurd hn_20 (Nat.not_lt_zero _)
    | succ nfu ih_20 =>
      intro k9 aw rk XB9 hn_20 hk8 haw hrk hJ H locs hP hD hS ls hl
      have hrl : rk ≤ 100 := by rw [hrk]; exact Nat.le_trans (cntB_le _ _) (by omega)
      have hal : aw ≤ 100 := by rw [haw]; exact Nat.le_trans (cntB_le _ _) (by omega)
      refine lv_iload hx hb dL_isRunner_20 (lv_at hl 0 rfl) ?_
      refine lv_iload_n hx hb dL_isRunner_22 rfl (lv_at hl 4 rfl) ?_
      refine lv_icmp_ge (tgt := 97) hx hb dL_isRunner_23 (by decide) (fun c_23 => ?_) (fun c_23 => ?_)
      · have hks : k9 = nS S := by have := (nI_leI (a := nS S) (b := k9) (by omega) (by omega)).mp c_23; omega
        have hend : onlyS S (nI rk) = -1 := by rw [hrk, hks]; exact only_endS
        have haw8 : cntB (awF S) (nS S) = aw := by rw [haw, hks]
        have hrn := own_rch hJ.wf 3
        refine lv_aload_n hx hb dL_isRunner_97 rfl (lv_at hl 5 rfl) ?_
        refine lv_iload hx hb dL_isRunner_98 (lv_at hl 1 rfl) ?_
        refine cB_i hJ.hd CF hK hN hA hS hP hD (b_onlyRunning l D cI cZ cW cJ A X xo S XB9 rk (by omega) hJ) (cwV 1 hts gL_isRunner_X8_onlyRunning rfl rfl rfl (by decide +kernel) ⟨Nat.le_of_ble_eq_true rfl, Nat.le_of_ble_eq_true rfl⟩) (As := [.int (nI rk)]) (rest := []) rfl hl.1 rfl (Nat.le_of_ble_eq_true rfl) dL_isRunner_100 ⟨Nat.le_of_ble_eq_true rfl, Nat.le_of_ble_eq_true rfl⟩ (fun r_100 u_100 H locs hq hP hD hS => ?_)
        obtain ⟨hrv, hJ⟩ := hq
        subst hrv
        refine top_i (y := (-1)) hend ?_
        refine lv_iconst (v := (-1)) hx hb dL_isRunner_103 (by decide) ?_
        have c_104 : ((-1) : Int32) = (-1) := rfl
        refine lv_icmp_ne (tgt := 136) hx hb dL_isRunner_104 (by decide) (fun q => absurd c_104 q) (fun _ => ?_)
        refine lv_aload_n hx hb dL_isRunner_107 rfl (lv_at hl 5 rfl) ?_
        refine lv_bipush (v := 8) hx hb dL_isRunner_108 (by decide) ?_
        refine cB_i hJ.hd CF hK hN hA hS hP hD (b_count l D cI cZ cW cJ A X xo S u_100 8 (by decide) hJ) (cwV 1 hts gL_isRunner_X8_count rfl rfl rfl (by decide +kernel) ⟨Nat.le_of_ble_eq_true rfl, Nat.le_of_ble_eq_true rfl⟩) (As := [.int 8]) (rest := []) rfl hl.1 rfl (Nat.le_of_ble_eq_true rfl) dL_isRunner_110 ⟨Nat.le_of_ble_eq_true rfl, Nat.le_of_ble_eq_true rfl⟩ (fun r_110 u_110 H locs hq hP hD hS => ?_)
        obtain ⟨hrv, hJ⟩ := hq
        subst hrv
        refine top_i (y := (nI aw)) (by rw [count_8]; exact congrArg nI haw8) ?_
        refine lv_iload_n hx hb dL_isRunner_113 rfl (lv_at hl 2 rfl) ?_
        have c_114 : ((nI aw) : Int32) = (nI aw) := rfl
        refine lv_icmp_ne (tgt := 136) hx hb dL_isRunner_114 (by decide) (fun q => absurd c_114 q) (fun _ => ?_)
        refine lv_aload_n hx hb dL_isRunner_117 rfl (lv_at hl 5 rfl) ?_
        refine cB_d hJ.hd CF hK hN hA hS hP hD (b_reachShare l D cI cZ cW cJ A X xo S u_110   hJ) (cwV 0 hts gL_isRunner_X8_reachShare rfl rfl rfl (by decide +kernel) ⟨Nat.le_of_ble_eq_true rfl, Nat.le_of_ble_eq_true rfl⟩) (As := []) (rest := []) rfl hl.1 rfl (Nat.le_of_ble_eq_true rfl) dL_isRunner_118 ⟨Nat.le_of_ble_eq_true rfl, Nat.le_of_ble_eq_true rfl⟩ (fun r_118 u_118 H locs hq hP hD hS => ?_)
        obtain ⟨hrv, hJ⟩ := hq
        subst hrv
        refine lv_iload_n hx hb dL_isRunner_121 rfl (lv_at hl 4 rfl) ?_
        refine lv_iload_n hx hb dL_isRunner_122 rfl (lv_at hl 2 rfl) ?_
        refine lv_isub hx hb dL_isRunner_123 ?_
        refine top_i (y := (nI (cntB (rcS S 3) (nS S)))) (by rw [← haw8]; exact sub_away S) ?_
        refine lv_i2d hx hb dL_isRunner_124 ?_
        refine lv_iload_n hx hb dL_isRunner_125 rfl (lv_at hl 4 rfl) ?_
        refine lv_i2d hx hb dL_isRunner_126 ?_
        refine lv_ddiv hx hb dL_isRunner_127 (share_nn (by omega) hn9 (cntB_le _ _)) ?_
        refine lv_dcmp hx hb dL_isRunner_128 ?_
        refine top_i (y := 0) (share_c (nS S) (by omega) (by omega) (cntB (rcS S 3) (nS S)) (Nat.lt_succ_of_le (Nat.le_trans (cntB_le _ _) hn9))) ?_
        have c_129 : (0 : Int32) = 0 := rfl
        refine lv_if_ne (tgt := 136) hx hb dL_isRunner_129 (by decide) (fun q => absurd c_129 q) (fun _ => ?_)
        refine lv_iconst (v := 1) hx hb dL_isRunner_132 (by decide) ?_
        refine lv_goto (tgt := 137) hx hb dL_isRunner_133 (by decide) ?_
        exact W.zret (v := 1) (ty := .boolean) hx hb hr (rfl) (fun t9 ht9 hW9 => ⟨⟨1, u_118, rfl, ⟨rfl, hJ⟩, by rw [ht9]; exact hP, hD⟩, hS.F ht9⟩) hS.2.2 dL_isRunner_137
      · have hk9 : k9 < nS S := lt_of_nge (by omega) (by omega) c_23
        rcases rc_spec (k := 3) how hk9 with ⟨r3, e3⟩ | ⟨m3, hm3, r3, e3⟩
        · have hp9 : pOn S k9 = false := by unfold pOn; rw [r3]; rfl
          have ha9 : awF S k9 = true := by unfold awF; rw [r3]; rfl
          refine lv_aload_n hx hb dL_isRunner_26 rfl (lv_at hl 5 rfl) ?_
          refine lv_iload_n hx hb dL_isRunner_27 rfl (lv_at hl 3 rfl) ?_
          refine lv_iload hx hb dL_isRunner_28 (lv_at hl 0 rfl) ?_
          refine lv_iconst (v := 3) hx hb dL_isRunner_30 (by decide) ?_
          refine lv_iconst (v := 0) hx hb dL_isRunner_31 (by decide) ?_
          refine cB_i hJ.hd CF hK hN hA hS hP hD (b_fewest l D cI cZ cW cJ A X xo S XB9 (owS S) k9 3 0 (by omega) (by omega) (by decide) (by decide) hJ) (cwV 4 hts gL_isRunner_X8_fewest rfl rfl rfl (by decide +kernel) ⟨Nat.le_of_ble_eq_true rfl, Nat.le_of_ble_eq_true rfl⟩) (As := [.int (nI (owS S)), .int (nI k9), .int 3, .int 0]) (rest := []) rfl hl.1 rfl (Nat.le_of_ble_eq_true rfl) dL_isRunner_32 ⟨Nat.le_of_ble_eq_true rfl, Nat.le_of_ble_eq_true rfl⟩ (fun r_32 u_32 H locs hq hP hD hS => ?_)
          obtain ⟨hrv, hJ⟩ := hq
          subst hrv
          refine top_i (y := (-1)) e3 ?_
          have c_35 : ((-1) : Int32) < 0 := by decide
          refine lv_if_lt (tgt := 42) hx hb dL_isRunner_35 (by decide) (fun _ => ?_) (fun q => absurd c_35 q)
          refine lv_iconst (v := 0) hx hb dL_isRunner_42 (by decide) ?_
          refine lv_istore (lv' := [(6, .int 0), (5, .int (nI k9)), (4, .int (nI rk)), (3, .int (nI aw)), (2, .int (nI (owS S))), (1, .int (nI (nS S))), (0, .ref xo)]) hx hb dL_isRunner_43 hl (by decide) rfl (fun ls hl => ?_)
          refine lv_iload_n hx hb dL_isRunner_45 rfl (lv_at hl 3 rfl) ?_
          refine lv_iload hx hb dL_isRunner_46 (lv_at hl 0 rfl) ?_
          have c_48 : (0 : Int32) = 0 := rfl
          refine lv_if_eq (tgt := 55) hx hb dL_isRunner_48 (by decide) (fun _ => ?_) (fun q => absurd c_48 q)
          refine lv_iconst (v := 1) hx hb dL_isRunner_55 (by decide) ?_
          refine lv_iadd hx hb dL_isRunner_56 ?_
          refine top_i (y := (nI (aw + 1))) (nI_add aw 1) ?_
          refine lv_istore_n (lv' := [(3, .int (nI (aw + 1))), (6, .int 0), (5, .int (nI k9)), (4, .int (nI rk)), (2, .int (nI (owS S))), (1, .int (nI (nS S))), (0, .ref xo)]) hx hb dL_isRunner_57 rfl hl (by decide) rfl (fun ls hl => ?_)
          refine lv_iload hx hb dL_isRunner_58 (lv_at hl 1 rfl) ?_
          have c_60 : (0 : Int32) = 0 := rfl
          refine lv_if_eq (tgt := 91) hx hb dL_isRunner_60 (by decide) (fun _ => ?_) (fun q => absurd c_60 q)
          refine lv_iinc (v := (nI (k9 + 1))) (lv' := [(5, .int (nI (k9 + 1))), (3, .int (nI (aw + 1))), (6, .int 0), (4, .int (nI rk)), (2, .int (nI (owS S))), (1, .int (nI (nS S))), (0, .ref xo)]) hx hb dL_isRunner_91 hl (k := 2) rfl (nI_1 k9) (by decide) rfl (fun ls hl => ?_)
          refine lv_goto (tgt := 20) hx hb dL_isRunner_94 (by decide) ?_
          exact ih_20 (k9 + 1) (aw + 1) rk u_32 (by omega) (by omega) (by rw [cntB_t ha9]; omega) (by rw [cntB_f hp9]; omega) (hJ) _ _ (hP) (hD) hS _ (lv_sub hl [0, 3, 1, 4, 5, 6] rfl)
        · have ha9 : awF S k9 = false := by unfold awF; rw [r3]; rfl
          refine lv_aload_n hx hb dL_isRunner_26 rfl (lv_at hl 5 rfl) ?_
          refine lv_iload_n hx hb dL_isRunner_27 rfl (lv_at hl 3 rfl) ?_
          refine lv_iload hx hb dL_isRunner_28 (lv_at hl 0 rfl) ?_
          refine lv_iconst (v := 3) hx hb dL_isRunner_30 (by decide) ?_
          refine lv_iconst (v := 0) hx hb dL_isRunner_31 (by decide) ?_
          refine cB_i hJ.hd CF hK hN hA hS hP hD (b_fewest l D cI cZ cW cJ A X xo S XB9 (owS S) k9 3 0 (by omega) (by omega) (by decide) (by decide) hJ) (cwV 4 hts gL_isRunner_X8_fewest rfl rfl rfl (by decide +kernel) ⟨Nat.le_of_ble_eq_true rfl, Nat.le_of_ble_eq_true rfl⟩) (As := [.int (nI (owS S)), .int (nI k9), .int 3, .int 0]) (rest := []) rfl hl.1 rfl (Nat.le_of_ble_eq_true rfl) dL_isRunner_32 ⟨Nat.le_of_ble_eq_true rfl, Nat.le_of_ble_eq_true rfl⟩ (fun r_32 u_32 H locs hq hP hD hS => ?_)
          obtain ⟨hrv, hJ⟩ := hq
          subst hrv
          refine top_i (y := (nI m3)) e3 ?_
          have c_35 : ¬ ((nI m3) : Int32) < 0 := nI_pos (by omega)
          refine lv_if_lt (tgt := 42) hx hb dL_isRunner_35 (by decide) (fun q => absurd q c_35) (fun _ => ?_)
          refine lv_iconst (v := 1) hx hb dL_isRunner_38 (by decide) ?_
          refine lv_goto (tgt := 43) hx hb dL_isRunner_39 (by decide) ?_
          refine lv_istore (lv' := [(6, .int 1), (5, .int (nI k9)), (4, .int (nI rk)), (3, .int (nI aw)), (2, .int (nI (owS S))), (1, .int (nI (nS S))), (0, .ref xo)]) hx hb dL_isRunner_43 hl (by decide) rfl (fun ls hl => ?_)
          refine lv_iload_n hx hb dL_isRunner_45 rfl (lv_at hl 3 rfl) ?_
          refine lv_iload hx hb dL_isRunner_46 (lv_at hl 0 rfl) ?_
          have c_48 : ¬ (1 : Int32) = 0 := by decide
          refine lv_if_eq (tgt := 55) hx hb dL_isRunner_48 (by decide) (fun q => absurd q c_48) (fun _ => ?_)
          refine lv_iconst (v := 0) hx hb dL_isRunner_51 (by decide) ?_
          refine lv_goto (tgt := 56) hx hb dL_isRunner_52 (by decide) ?_
          refine lv_iadd hx hb dL_isRunner_56 ?_
          refine top_i (y := (nI (aw + 0))) (nI_add aw 0) ?_
          refine lv_istore_n (lv' := [(3, .int (nI (aw + 0))), (6, .int 1), (5, .int (nI k9)), (4, .int (nI rk)), (2, .int (nI (owS S))), (1, .int (nI (nS S))), (0, .ref xo)]) hx hb dL_isRunner_57 rfl hl (by decide) rfl (fun ls hl => ?_)
          refine lv_iload hx hb dL_isRunner_58 (lv_at hl 1 rfl) ?_
          have c_60 : ¬ (1 : Int32) = 0 := by decide
          refine lv_if_eq (tgt := 91) hx hb dL_isRunner_60 (by decide) (fun q => absurd q c_60) (fun _ => ?_)
          rcases rc_spec (k := 0) how hk9 with ⟨r0, e0⟩ | ⟨m0, hm0, r0, e0⟩
          · have hp9 : pOn S k9 = true := by unfold pOn; rw [r3, r0]; rfl
            have hon : onlyS S (nI rk) = nI k9 := by rw [hrk]; exact only_hitS hk9 hp9
            refine lv_aload_n hx hb dL_isRunner_63 rfl (lv_at hl 6 rfl) ?_
            refine lv_iload_n hx hb dL_isRunner_64 rfl (lv_at hl 4 rfl) ?_
            refine lv_iload hx hb dL_isRunner_65 (lv_at hl 2 rfl) ?_
            refine lv_iconst (v := 0) hx hb dL_isRunner_67 (by decide) ?_
            refine lv_iconst (v := 1) hx hb dL_isRunner_68 (by decide) ?_
            refine cB_i hJ.hd CF hK hN hA hS hP hD (b_fewest l D cI cZ cW cJ A X xo S u_32 (owS S) k9 0 1 (by omega) (by omega) (by decide) (by decide) hJ) (cwV 4 hts gL_isRunner_X8_fewest rfl rfl rfl (by decide +kernel) ⟨Nat.le_of_ble_eq_true rfl, Nat.le_of_ble_eq_true rfl⟩) (As := [.int (nI (owS S)), .int (nI k9), .int 0, .int 1]) (rest := []) rfl hl.1 rfl (Nat.le_of_ble_eq_true rfl) dL_isRunner_69 ⟨Nat.le_of_ble_eq_true rfl, Nat.le_of_ble_eq_true rfl⟩ (fun r_69 u_69 H locs hq hP hD hS => ?_)
            obtain ⟨hrv, hJ⟩ := hq
            subst hrv
            refine top_i (y := (-1)) e0 ?_
            have c_72 : ¬ (0 : Int32) ≤ (-1) := by decide
            refine lv_if_ge (tgt := 91) hx hb dL_isRunner_72 (by decide) (fun q => absurd q c_72) (fun _ => ?_)
            refine lv_aload_n hx hb dL_isRunner_75 rfl (lv_at hl 6 rfl) ?_
            refine lv_iload hx hb dL_isRunner_76 (lv_at hl 3 rfl) ?_
            refine cB_i hJ.hd CF hK hN hA hS hP hD (b_onlyRunning l D cI cZ cW cJ A X xo S u_69 rk (by omega) hJ) (cwV 1 hts gL_isRunner_X8_onlyRunning rfl rfl rfl (by decide +kernel) ⟨Nat.le_of_ble_eq_true rfl, Nat.le_of_ble_eq_true rfl⟩) (As := [.int (nI rk)]) (rest := []) rfl hl.1 rfl (Nat.le_of_ble_eq_true rfl) dL_isRunner_78 ⟨Nat.le_of_ble_eq_true rfl, Nat.le_of_ble_eq_true rfl⟩ (fun r_78 u_78 H locs hq hP hD hS => ?_)
            obtain ⟨hrv, hJ⟩ := hq
            subst hrv
            refine top_i (y := (nI k9)) hon ?_
            refine lv_iload hx hb dL_isRunner_81 (lv_at hl 2 rfl) ?_
            have c_83 : ((nI k9) : Int32) = (nI k9) := rfl
            refine lv_icmp_eq (tgt := 88) hx hb dL_isRunner_83 (by decide) (fun _ => ?_) (fun q => absurd c_83 q)
            refine lv_iinc (v := (nI (rk + 1))) (lv' := [(4, .int (nI (rk + 1))), (3, .int (nI (aw + 0))), (6, .int 1), (5, .int (nI k9)), (2, .int (nI (owS S))), (1, .int (nI (nS S))), (0, .ref xo)]) hx hb dL_isRunner_88 hl (k := 3) rfl (nI_1 rk) (by decide) rfl (fun ls hl => ?_)
            refine lv_iinc (v := (nI (k9 + 1))) (lv' := [(5, .int (nI (k9 + 1))), (4, .int (nI (rk + 1))), (3, .int (nI (aw + 0))), (6, .int 1), (2, .int (nI (owS S))), (1, .int (nI (nS S))), (0, .ref xo)]) hx hb dL_isRunner_91 hl (k := 3) rfl (nI_1 k9) (by decide) rfl (fun ls hl => ?_)
            refine lv_goto (tgt := 20) hx hb dL_isRunner_94 (by decide) ?_
            exact ih_20 (k9 + 1) (aw + 0) (rk + 1) u_78 (by omega) (by omega) (by rw [cntB_f ha9]; omega) (by rw [cntB_t hp9]; omega) (hJ) _ _ (hP) (hD) hS _ (lv_sub hl [0, 1, 2, 4, 5, 6] rfl)
          · have hp9 : pOn S k9 = false := by unfold pOn; rw [r3, r0]; rfl
            refine lv_aload_n hx hb dL_isRunner_63 rfl (lv_at hl 6 rfl) ?_
            refine lv_iload_n hx hb dL_isRunner_64 rfl (lv_at hl 4 rfl) ?_
            refine lv_iload hx hb dL_isRunner_65 (lv_at hl 2 rfl) ?_
            refine lv_iconst (v := 0) hx hb dL_isRunner_67 (by decide) ?_
            refine lv_iconst (v := 1) hx hb dL_isRunner_68 (by decide) ?_
            refine cB_i hJ.hd CF hK hN hA hS hP hD (b_fewest l D cI cZ cW cJ A X xo S u_32 (owS S) k9 0 1 (by omega) (by omega) (by decide) (by decide) hJ) (cwV 4 hts gL_isRunner_X8_fewest rfl rfl rfl (by decide +kernel) ⟨Nat.le_of_ble_eq_true rfl, Nat.le_of_ble_eq_true rfl⟩) (As := [.int (nI (owS S)), .int (nI k9), .int 0, .int 1]) (rest := []) rfl hl.1 rfl (Nat.le_of_ble_eq_true rfl) dL_isRunner_69 ⟨Nat.le_of_ble_eq_true rfl, Nat.le_of_ble_eq_true rfl⟩ (fun r_69 u_69 H locs hq hP hD hS => ?_)
            obtain ⟨hrv, hJ⟩ := hq
            subst hrv
            refine top_i (y := (nI m0)) e0 ?_
            have c_72 : (0 : Int32) ≤ (nI m0) := Int32.not_lt.mp (nI_pos (by omega))
            refine lv_if_ge (tgt := 91) hx hb dL_isRunner_72 (by decide) (fun _ => ?_) (fun q => absurd c_72 q)
            refine lv_iinc (v := (nI (k9 + 1))) (lv' := [(5, .int (nI (k9 + 1))), (3, .int (nI (aw + 0))), (6, .int 1), (4, .int (nI rk)), (2, .int (nI (owS S))), (1, .int (nI (nS S))), (0, .ref xo)]) hx hb dL_isRunner_91 hl (k := 2) rfl (nI_1 k9) (by decide) rfl (fun ls hl => ?_)
            refine lv_goto (tgt := 20) hx hb dL_isRunner_94 (by decide) ?_
            exact ih_20 (k9 + 1) (aw + 0) rk u_69 (by omega) (by omega) (by rw [cntB_f ha9]; omega) (by rw [cntB_f hp9]; omega) (hJ) _ _ (hP) (hD) hS _ (lv_sub hl [0, 3, 1, 4, 5, 6] rfl)
  exact loop_20 _ 0 0 0 u_8 (Nat.lt_succ_self _) (Nat.zero_le _) (rfl) (rfl) (hJ) _ _ hP hD hS _ (lv_sub hl [0, 1, 2, 3, 4, 5] rfl)
