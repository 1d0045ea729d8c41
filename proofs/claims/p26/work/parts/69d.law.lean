/-! an act -/
theorem set_le {k x : Nat} (h : (k = 0 ∧ x ≤ 4) ∨ (k ≠ 0 ∧ x ≤ 5)) : nI x ≤ gvI k := by
  unfold gvI
  rcases h with ⟨h1, h2⟩ | ⟨h1, h2⟩
  · rw [if_pos h1]; exact nI_let (b := 4) (by omega) (by decide) h2
  · rw [if_neg h1]; exact nI_let (b := 5) (by omega) (by decide) h2
theorem put_ok {S : KS} {c r : Nat} (hc : c < 20) (h : stB (Bk S.1) (nI c) (nI r) = true) : putK S c r = ((S.1, S.2.1, (c, r), S.2.2.2), nI (lgN (SB (Bk S.1)) (20 * r + c))) := by
  unfold putK
  rw [if_pos h, lgF_S (by rw [SB_rc hc]; exact h)]
theorem put_not {S : KS} {c r : Nat} (h : stB (Bk S.1) (nI c) (nI r) = false) : putK S c r = (refK S, -1) := by
  unfold putK
  rw [if_neg (by rw [h]; decide)]
set_option maxHeartbeats 4000000 in
set_option maxRecDepth 100000 in
theorem l_act (l : Launch) (D : va_G) (cI cZ cW cJ : ClassId) (A : Nat → Prop) (X : va_W) (t0 : Nat) (xo : Nat) (S : KS) (XB : va_W) (xv xw : Int32) (mm : Nat) (hJ : YJ cI cZ cW xo S XB) (hLW : LW mm S) : Met l yL_act wsL_act ({ frames := 7, cells := 0, slots := 0, locals := 166 }) (va_Pc [.ref xo, .int xv, .int xw] (wz t0 D (tyL cI cZ cW cJ) A ((X ++ XB)))) (va_Qi (fun (r : Int32) (u : KS × va_W) => r = 1 ∧ YJ cI cZ cW xo u.1 u.2 ∧ LW (mm + 1) u.1) (fun (u : KS × va_W) t => wq D A ((X ++ u.2)) t) A) 0 0 A := by
  refine Met.ofW (cc := cL_act) (maxL := 16) (ret := (some .boolean)) (by decide) rfl ?_
  intro p e s m args below meth c s₁ B hml hv
  obtain ⟨rfl, ⟨hsz9, hP, hK, hD, hN⟩, hZ, hT⟩ := hv
  have hx := B.exec
  have hb := B.bytes
  have hr := B.returns
  have hts := atoms_spec (ws := wsL_act) B.pre
  have hown : s.vm.findClass RL = some m.cls := findClass_of_methodNamed B.named
  have hlocks := B.notSynchronized
  have CF : CallFix p m c cL_act 16 s _ wsL_act RL := ⟨hx, hb, hml, hown, hts⟩
  have hA : ∀ q : Nat, s.heap.size ≤ q → A q := hsz9
  have hS : va_S A s.heap s.heap [] := va_S.rf
  have hl := lv_entry ([.ref xo, .int xv, .int xw]) (n := 16) (Nat.le_of_ble_eq_true rfl)
  rw [lg_entry_eq]
  generalize (lg_sl ([.ref xo, .int xv, .int xw]) ++ List.replicate (16 - (lg_sl ([.ref xo, .int xv, .int xw])).length) Slot.unset).toArray = ls at hl ⊢
  have hl : lv_has ls 16 [(0, .ref xo), (1, .int xv), (2, .int xw)] := hl
  show W p l e ({ frames := 7, cells := 0, slots := 0, locals := 166 } : Room) s m (([.ref xo, .int xv, .int xw] : List Value).toArray) below meth c s.heap [] 0 0 (MQ below (va_Qi (fun (r : Int32) (u : KS × va_W) => r = 1 ∧ YJ cI cZ cW xo u.1 u.2 ∧ LW (mm + 1) u.1) (fun (u : KS × va_W) t => wq D A ((X ++ u.2)) t) A) (([.ref xo, .int xv, .int xw] : List Value).toArray) s 0 0 A) (F0 m 0 ls [])
  have hW9 := hJ.wf
  have hw1 : S.2.2.1.1 < 20 := hW9.2.1
  have hw2 : S.2.2.1.2 < 10 := hW9.2.2.1
  have join_50 : ∀ (sd : Int32) (jc jr : Nat) (hd : sd = 1 ∨ sd = -1) (hjc : jc < 20) (hjr : jr < 10) (H : Heap) (locs : List Loc) (hP : va_P D vwCl ((X ++ XB)) H) (hD : va_D A ((X ++ XB))) (hS : va_S A s.heap H locs) (ls : Array Slot) (hl : lv_has ls 16 [(5, .int (nI jr)), (4, .int (nI jc)), (3, .int sd), (2, .int xw), (1, .int xv), (0, .ref xo)]), W p l e ({ frames := 7, cells := 0, slots := 0, locals := 166 } : Room) s m (([.ref xo, .int xv, .int xw] : List Value).toArray) below meth c H locs 0 0 (MQ below (va_Qi (fun (r : Int32) (u : KS × va_W) => r = 1 ∧ YJ cI cZ cW xo u.1 u.2 ∧ LW (mm + 1) u.1) (fun (u : KS × va_W) t => wq D A ((X ++ u.2)) t) A) (([.ref xo, .int xv, .int xw] : List Value).toArray) s 0 0 A) (F0 m 50 ls []) := by
    intro sd jc jr hd hjc hjr H locs hP hD hS ls hl
    refine lv_aload_n hx hb dL_act_50 rfl (lv_at hl 5 rfl) ?_
    refine lv_iconst (v := 2) hx hb dL_act_51 (by decide) ?_
    refine cB_i hJ.hd CF hK hN hA hS hP hD (b_count l D cI cZ cW cJ A X xo S XB 2 (by decide) hJ) (cwV 1 hts gL_act_X8_count rfl rfl rfl (by decide +kernel) ⟨Nat.le_of_ble_eq_true rfl, Nat.le_of_ble_eq_true rfl⟩) (As := [.int 2]) (rest := []) rfl hl.1 rfl (Nat.le_of_ble_eq_true rfl) dL_act_52 ⟨Nat.le_of_ble_eq_true rfl, Nat.le_of_ble_eq_true rfl⟩ (fun r_52 u_52 H locs hq hP hD hS => ?_)
    obtain ⟨hrv, hJ⟩ := hq
    subst hrv
    refine top_i (y := (nI S.2.2.1.1)) rfl ?_
    refine lv_istore (lv' := [(6, .int (nI S.2.2.1.1)), (5, .int (nI jr)), (4, .int (nI jc)), (3, .int sd), (2, .int xw), (1, .int xv), (0, .ref xo)]) hx hb dL_act_55 hl (by decide) rfl (fun ls hl => ?_)
    refine lv_aload_n hx hb dL_act_57 rfl (lv_at hl 6 rfl) ?_
    refine lv_iconst (v := 3) hx hb dL_act_58 (by decide) ?_
    refine cB_i hJ.hd CF hK hN hA hS hP hD (b_count l D cI cZ cW cJ A X xo S u_52 3 (by decide) hJ) (cwV 1 hts gL_act_X8_count rfl rfl rfl (by decide +kernel) ⟨Nat.le_of_ble_eq_true rfl, Nat.le_of_ble_eq_true rfl⟩) (As := [.int 3]) (rest := []) rfl hl.1 rfl (Nat.le_of_ble_eq_true rfl) dL_act_59 ⟨Nat.le_of_ble_eq_true rfl, Nat.le_of_ble_eq_true rfl⟩ (fun r_59 u_59 H locs hq hP hD hS => ?_)
    obtain ⟨hrv, hJ⟩ := hq
    subst hrv
    refine top_i (y := (nI S.2.2.1.2)) rfl ?_
    refine lv_istore (lv' := [(7, .int (nI S.2.2.1.2)), (6, .int (nI S.2.2.1.1)), (5, .int (nI jr)), (4, .int (nI jc)), (3, .int sd), (2, .int xw), (1, .int xv), (0, .ref xo)]) hx hb dL_act_62 hl (by decide) rfl (fun ls hl => ?_)
    refine lv_aload_n hx hb dL_act_64 rfl (lv_at hl 7 rfl) ?_
    refine lv_bipush (v := 7) hx hb dL_act_65 (by decide) ?_
    refine cB_i hJ.hd CF hK hN hA hS hP hD (b_count l D cI cZ cW cJ A X xo S u_59 7 (by decide) hJ) (cwV 1 hts gL_act_X8_count rfl rfl rfl (by decide +kernel) ⟨Nat.le_of_ble_eq_true rfl, Nat.le_of_ble_eq_true rfl⟩) (As := [.int 7]) (rest := []) rfl hl.1 rfl (Nat.le_of_ble_eq_true rfl) dL_act_67 ⟨Nat.le_of_ble_eq_true rfl, Nat.le_of_ble_eq_true rfl⟩ (fun r_67 u_67 H locs hq hP hD hS => ?_)
    obtain ⟨hrv, hJ⟩ := hq
    subst hrv
    refine top_i (y := S.2.2.2.2.2) rfl ?_
    refine lv_istore (lv' := [(8, .int S.2.2.2.2.2), (7, .int (nI S.2.2.1.2)), (6, .int (nI S.2.2.1.1)), (5, .int (nI jr)), (4, .int (nI jc)), (3, .int sd), (2, .int xw), (1, .int xv), (0, .ref xo)]) hx hb dL_act_70 hl (by decide) rfl (fun ls hl => ?_)
    have join_132 : ∀  (H : Heap) (locs : List Loc) (hP : va_P D vwCl ((X ++ u_67)) H) (hD : va_D A ((X ++ u_67))) (hS : va_S A s.heap H locs) (ls : Array Slot) (hl : lv_has ls 16 [(8, .int S.2.2.2.2.2), (7, .int (nI S.2.2.1.2)), (6, .int (nI S.2.2.1.1)), (5, .int (nI jr)), (4, .int (nI jc)), (3, .int sd), (2, .int xw), (1, .int xv), (0, .ref xo)]), W p l e ({ frames := 7, cells := 0, slots := 0, locals := 166 } : Room) s m (([.ref xo, .int xv, .int xw] : List Value).toArray) below meth c H locs 0 0 (MQ below (va_Qi (fun (r : Int32) (u : KS × va_W) => r = 1 ∧ YJ cI cZ cW xo u.1 u.2 ∧ LW (mm + 1) u.1) (fun (u : KS × va_W) t => wq D A ((X ++ u.2)) t) A) (([.ref xo, .int xv, .int xw] : List Value).toArray) s 0 0 A) (F0 m 132 ls []) := by
      intro  H locs hP hD hS ls hl
      by_cases hown : jc = S.2.2.1.1 ∧ jr = S.2.2.1.2
      · obtain ⟨h1, h2⟩ := hown
        subst h1
        subst h2
        obtain ⟨hb1, hb2⟩ := build_own hW9
        refine lv_aload_n hx hb dL_act_132 rfl (lv_at hl 8 rfl) ?_
        refine lv_iload hx hb dL_act_133 (lv_at hl 4 rfl) ?_
        refine lv_iload hx hb dL_act_135 (lv_at hl 3 rfl) ?_
        refine lv_iconst (v := 0) hx hb dL_act_137 (by decide) ?_
        refine cB_i hJ.hd CF hK hN hA hS hP hD (b_cellOf l D cI cZ cW cJ A X xo S u_67 S.2.2.1.1 S.2.2.1.2 0 (by omega) (by omega) (by decide) hJ) (cwV 3 hts gL_act_X8_cellOf rfl rfl rfl (by decide +kernel) ⟨Nat.le_of_ble_eq_true rfl, Nat.le_of_ble_eq_true rfl⟩) (As := [.int (nI S.2.2.1.1), .int (nI S.2.2.1.2), .int 0]) (rest := []) rfl hl.1 rfl (Nat.le_of_ble_eq_true rfl) dL_act_138 ⟨Nat.le_of_ble_eq_true rfl, Nat.le_of_ble_eq_true rfl⟩ (fun r_138 u_138 H locs hq hP hD hS => ?_)
        obtain ⟨hrv, hJ⟩ := hq
        subst hrv
        refine lv_istore (lv' := [(9, .int (cellS S S.2.2.1.1 S.2.2.1.2 0)), (8, .int S.2.2.2.2.2), (7, .int (nI S.2.2.1.2)), (6, .int (nI S.2.2.1.1)), (5, .int (nI S.2.2.1.2)), (4, .int (nI S.2.2.1.1)), (3, .int sd), (2, .int xw), (1, .int xv), (0, .ref xo)]) hx hb dL_act_141 hl (by decide) rfl (fun ls hl => ?_)
        refine lv_aload_n hx hb dL_act_143 rfl (lv_at hl 9 rfl) ?_
        refine lv_iload hx hb dL_act_144 (lv_at hl 5 rfl) ?_
        refine lv_iload hx hb dL_act_146 (lv_at hl 4 rfl) ?_
        refine cB_i hJ.hd CF hK hN hA hS hP hD (b_build l D cI cZ cW cJ A X xo S u_138 S.2.2.1.1 S.2.2.1.2 (by omega) (by omega) hJ) (cwV 2 hts gL_act_X8_build rfl rfl rfl (by decide +kernel) ⟨Nat.le_of_ble_eq_true rfl, Nat.le_of_ble_eq_true rfl⟩) (As := [.int (nI S.2.2.1.1), .int (nI S.2.2.1.2)]) (rest := []) rfl hl.1 rfl (Nat.le_of_ble_eq_true rfl) dL_act_148 ⟨Nat.le_of_ble_eq_true rfl, Nat.le_of_ble_eq_true rfl⟩ (fun r_148 u_148 H locs hq hP hD hS => ?_)
        obtain ⟨hrv, hJ⟩ := hq
        subst hrv
        have hJ : YJ cI cZ cW xo (refK S) u_148 := by have z := hJ; rw [hb1] at z; exact z
        refine top_i (y := (-1)) (by rw [hb1]) ?_
        refine lv_istore (lv' := [(10, .int (-1)), (9, .int (cellS S S.2.2.1.1 S.2.2.1.2 0)), (8, .int S.2.2.2.2.2), (7, .int (nI S.2.2.1.2)), (6, .int (nI S.2.2.1.1)), (5, .int (nI S.2.2.1.2)), (4, .int (nI S.2.2.1.1)), (3, .int sd), (2, .int xw), (1, .int xv), (0, .ref xo)]) hx hb dL_act_151 hl (by decide) rfl (fun ls hl => ?_)
        refine lv_iload hx hb dL_act_153 (lv_at hl 4 rfl) ?_
        refine lv_iload hx hb dL_act_155 (lv_at hl 6 rfl) ?_
        have c_157 : ((nI S.2.2.1.1) : Int32) = (nI S.2.2.1.1) := rfl
        refine lv_icmp_ne (tgt := 204) hx hb dL_act_157 (by decide) (fun q => absurd c_157 q) (fun _ => ?_)
        refine lv_iload hx hb dL_act_160 (lv_at hl 3 rfl) ?_
        refine lv_iload hx hb dL_act_162 (lv_at hl 5 rfl) ?_
        have c_164 : ((nI S.2.2.1.2) : Int32) = (nI S.2.2.1.2) := rfl
        refine lv_icmp_ne (tgt := 204) hx hb dL_act_164 (by decide) (fun q => absurd c_164 q) (fun _ => ?_)
        refine lv_iload hx hb dL_act_167 (lv_at hl 0 rfl) ?_
        refine lv_iconst (v := (-1)) hx hb dL_act_169 (by decide) ?_
        have c_170 : ((-1) : Int32) = (-1) := rfl
        refine lv_icmp_ne (tgt := 202) hx hb dL_act_170 (by decide) (fun q => absurd c_170 q) (fun _ => ?_)
        refine lv_aload_n hx hb dL_act_173 rfl (lv_at hl 10 rfl) ?_
        refine lv_bipush (v := 7) hx hb dL_act_174 (by decide) ?_
        refine cB_i hJ.hd CF hK hN hA hS hP hD (b_count l D cI cZ cW cJ A X xo (refK S) u_148 7 (by decide) hJ) (cwV 1 hts gL_act_X8_count rfl rfl rfl (by decide +kernel) ⟨Nat.le_of_ble_eq_true rfl, Nat.le_of_ble_eq_true rfl⟩) (As := [.int 7]) (rest := []) rfl hl.1 rfl (Nat.le_of_ble_eq_true rfl) dL_act_176 ⟨Nat.le_of_ble_eq_true rfl, Nat.le_of_ble_eq_true rfl⟩ (fun r_176 u_176 H locs hq hP hD hS => ?_)
        obtain ⟨hrv, hJ⟩ := hq
        subst hrv
        refine top_i (y := (S.2.2.2.2.2 + 1)) rfl ?_
        refine lv_iload hx hb dL_act_179 (lv_at hl 2 rfl) ?_
        refine lv_iconst (v := 1) hx hb dL_act_181 (by decide) ?_
        refine lv_iadd hx hb dL_act_182 ?_
        have c_183 : ((S.2.2.2.2.2 + 1) : Int32) = (S.2.2.2.2.2 + 1) := rfl
        refine lv_icmp_ne (tgt := 202) hx hb dL_act_183 (by decide) (fun q => absurd c_183 q) (fun _ => ?_)
        refine lv_aload_n hx hb dL_act_186 rfl (lv_at hl 10 rfl) ?_
        refine lv_iload hx hb dL_act_187 (lv_at hl 6 rfl) ?_
        refine lv_iload hx hb dL_act_189 (lv_at hl 5 rfl) ?_
        refine lv_iconst (v := 0) hx hb dL_act_191 (by decide) ?_
        refine cB_i hJ.hd CF hK hN hA hS hP hD (b_cellOf l D cI cZ cW cJ A X xo (refK S) u_176 S.2.2.1.1 S.2.2.1.2 0 (by omega) (by omega) (by decide) hJ) (cwV 3 hts gL_act_X8_cellOf rfl rfl rfl (by decide +kernel) ⟨Nat.le_of_ble_eq_true rfl, Nat.le_of_ble_eq_true rfl⟩) (As := [.int (nI S.2.2.1.1), .int (nI S.2.2.1.2), .int 0]) (rest := []) rfl hl.1 rfl (Nat.le_of_ble_eq_true rfl) dL_act_192 ⟨Nat.le_of_ble_eq_true rfl, Nat.le_of_ble_eq_true rfl⟩ (fun r_192 u_192 H locs hq hP hD hS => ?_)
        obtain ⟨hrv, hJ⟩ := hq
        subst hrv
        refine top_i (y := 0) hb2 ?_
        have c_195 : (0 : Int32) = 0 := rfl
        refine lv_if_ne (tgt := 202) hx hb dL_act_195 (by decide) (fun q => absurd c_195 q) (fun _ => ?_)
        refine lv_iconst (v := 1) hx hb dL_act_198 (by decide) ?_
        refine lv_goto (tgt := 203) hx hb dL_act_199 (by decide) ?_
        exact W.zret (v := 1) (ty := .boolean) hx hb hr (rfl) (fun t9 ht9 hW9 => ⟨⟨1, (refK S, u_192), rfl, ⟨rfl, hJ, (show LW mm (refK S) from hLW).up (by omega)⟩, by rw [ht9]; exact hP, hD⟩, hS.F ht9⟩) hS.2.2 dL_act_203
      · obtain ⟨j9, hj1, hj2, hb1, hc0, hc1⟩ := build_else hW9 hjc hjr hown
        by_cases hcol : jc = S.2.2.1.1
        · skip
          refine lv_aload_n hx hb dL_act_132 rfl (lv_at hl 8 rfl) ?_
          refine lv_iload hx hb dL_act_133 (lv_at hl 4 rfl) ?_
          refine lv_iload hx hb dL_act_135 (lv_at hl 3 rfl) ?_
          refine lv_iconst (v := 0) hx hb dL_act_137 (by decide) ?_
          refine cB_i hJ.hd CF hK hN hA hS hP hD (b_cellOf l D cI cZ cW cJ A X xo S u_67 jc jr 0 (by omega) (by omega) (by decide) hJ) (cwV 3 hts gL_act_X8_cellOf rfl rfl rfl (by decide +kernel) ⟨Nat.le_of_ble_eq_true rfl, Nat.le_of_ble_eq_true rfl⟩) (As := [.int (nI jc), .int (nI jr), .int 0]) (rest := []) rfl hl.1 rfl (Nat.le_of_ble_eq_true rfl) dL_act_138 ⟨Nat.le_of_ble_eq_true rfl, Nat.le_of_ble_eq_true rfl⟩ (fun r_138 u_138 H locs hq hP hD hS => ?_)
          obtain ⟨hrv, hJ⟩ := hq
          subst hrv
          refine top_i (y := (bI (S.1 jc jr))) hc0 ?_
          refine lv_istore (lv' := [(9, .int (bI (S.1 jc jr))), (8, .int S.2.2.2.2.2), (7, .int (nI S.2.2.1.2)), (6, .int (nI S.2.2.1.1)), (5, .int (nI jr)), (4, .int (nI jc)), (3, .int sd), (2, .int xw), (1, .int xv), (0, .ref xo)]) hx hb dL_act_141 hl (by decide) rfl (fun ls hl => ?_)
          refine lv_aload_n hx hb dL_act_143 rfl (lv_at hl 9 rfl) ?_
          refine lv_iload hx hb dL_act_144 (lv_at hl 5 rfl) ?_
          refine lv_iload hx hb dL_act_146 (lv_at hl 4 rfl) ?_
          refine cB_i hJ.hd CF hK hN hA hS hP hD (b_build l D cI cZ cW cJ A X xo S u_138 jc jr (by omega) (by omega) hJ) (cwV 2 hts gL_act_X8_build rfl rfl rfl (by decide +kernel) ⟨Nat.le_of_ble_eq_true rfl, Nat.le_of_ble_eq_true rfl⟩) (As := [.int (nI jc), .int (nI jr)]) (rest := []) rfl hl.1 rfl (Nat.le_of_ble_eq_true rfl) dL_act_148 ⟨Nat.le_of_ble_eq_true rfl, Nat.le_of_ble_eq_true rfl⟩ (fun r_148 u_148 H locs hq hP hD hS => ?_)
          obtain ⟨hrv, hJ⟩ := hq
          subst hrv
          have hJ : YJ cI cZ cW xo (flipL S.1 jc jr, S.2.1, (S.2.2.1.1, j9), S.2.2.2) u_148 := by have z := hJ; rw [hb1] at z; exact z
          refine top_i (y := (bI (!S.1 jc jr))) (by rw [hb1]) ?_
          refine lv_istore (lv' := [(10, .int (bI (!S.1 jc jr))), (9, .int (bI (S.1 jc jr))), (8, .int S.2.2.2.2.2), (7, .int (nI S.2.2.1.2)), (6, .int (nI S.2.2.1.1)), (5, .int (nI jr)), (4, .int (nI jc)), (3, .int sd), (2, .int xw), (1, .int xv), (0, .ref xo)]) hx hb dL_act_151 hl (by decide) rfl (fun ls hl => ?_)
          refine lv_iload hx hb dL_act_153 (lv_at hl 4 rfl) ?_
          refine lv_iload hx hb dL_act_155 (lv_at hl 6 rfl) ?_
          have c_157 : ((nI S.2.2.1.1) : Int32) = (nI jc) := congrArg nI hcol.symm
          refine lv_icmp_ne (tgt := 204) hx hb dL_act_157 (by decide) (fun q => absurd c_157 q) (fun _ => ?_)
          refine lv_iload hx hb dL_act_160 (lv_at hl 3 rfl) ?_
          refine lv_iload hx hb dL_act_162 (lv_at hl 5 rfl) ?_
          have c_164 : ¬ ((nI S.2.2.1.2) : Int32) = (nI jr) := nI_nee (by omega) (by omega) (fun q => hown ⟨hcol, q.symm⟩)
          refine lv_icmp_ne (tgt := 204) hx hb dL_act_164 (by decide) (fun _ => ?_) (fun q => absurd q c_164)
          refine lv_iload hx hb dL_act_204 (lv_at hl 0 rfl) ?_
          refine lv_iconst (v := 1) hx hb dL_act_206 (by decide) ?_
          refine lv_iload hx hb dL_act_207 (lv_at hl 1 rfl) ?_
          refine lv_isub hx hb dL_act_209 ?_
          have c_210 : ((bI (!S.1 jc jr)) : Int32) = (1 - (bI (S.1 jc jr))) := not_1 _
          refine lv_icmp_ne (tgt := 262) hx hb dL_act_210 (by decide) (fun q => absurd c_210 q) (fun _ => ?_)
          refine lv_aload_n hx hb dL_act_213 rfl (lv_at hl 10 rfl) ?_
          refine lv_iload hx hb dL_act_214 (lv_at hl 6 rfl) ?_
          refine lv_iload hx hb dL_act_216 (lv_at hl 5 rfl) ?_
          refine lv_iconst (v := 0) hx hb dL_act_218 (by decide) ?_
          refine cB_i hJ.hd CF hK hN hA hS hP hD (b_cellOf l D cI cZ cW cJ A X xo (flipL S.1 jc jr, S.2.1, (S.2.2.1.1, j9), S.2.2.2) u_148 jc jr 0 (by omega) (by omega) (by decide) hJ) (cwV 3 hts gL_act_X8_cellOf rfl rfl rfl (by decide +kernel) ⟨Nat.le_of_ble_eq_true rfl, Nat.le_of_ble_eq_true rfl⟩) (As := [.int (nI jc), .int (nI jr), .int 0]) (rest := []) rfl hl.1 rfl (Nat.le_of_ble_eq_true rfl) dL_act_219 ⟨Nat.le_of_ble_eq_true rfl, Nat.le_of_ble_eq_true rfl⟩ (fun r_219 u_219 H locs hq hP hD hS => ?_)
          obtain ⟨hrv, hJ⟩ := hq
          subst hrv
          refine top_i (y := (bI (!S.1 jc jr))) hc1 ?_
          refine lv_iload hx hb dL_act_222 (lv_at hl 0 rfl) ?_
          have c_224 : ((bI (!S.1 jc jr)) : Int32) = (bI (!S.1 jc jr)) := rfl
          refine lv_icmp_ne (tgt := 262) hx hb dL_act_224 (by decide) (fun q => absurd c_224 q) (fun _ => ?_)
          refine lv_aload_n hx hb dL_act_227 rfl (lv_at hl 10 rfl) ?_
          refine lv_iconst (v := 2) hx hb dL_act_228 (by decide) ?_
          refine cB_i hJ.hd CF hK hN hA hS hP hD (b_count l D cI cZ cW cJ A X xo (flipL S.1 jc jr, S.2.1, (S.2.2.1.1, j9), S.2.2.2) u_219 2 (by decide) hJ) (cwV 1 hts gL_act_X8_count rfl rfl rfl (by decide +kernel) ⟨Nat.le_of_ble_eq_true rfl, Nat.le_of_ble_eq_true rfl⟩) (As := [.int 2]) (rest := []) rfl hl.1 rfl (Nat.le_of_ble_eq_true rfl) dL_act_229 ⟨Nat.le_of_ble_eq_true rfl, Nat.le_of_ble_eq_true rfl⟩ (fun r_229 u_229 H locs hq hP hD hS => ?_)
          obtain ⟨hrv, hJ⟩ := hq
          subst hrv
          refine top_i (y := (nI S.2.2.1.1)) rfl ?_
          refine lv_iload hx hb dL_act_232 (lv_at hl 4 rfl) ?_
          have c_234 : ((nI S.2.2.1.1) : Int32) = (nI S.2.2.1.1) := rfl
          refine lv_icmp_ne (tgt := 262) hx hb dL_act_234 (by decide) (fun q => absurd c_234 q) (fun _ => ?_)
          refine lv_aload_n hx hb dL_act_237 rfl (lv_at hl 10 rfl) ?_
          refine lv_iconst (v := 3) hx hb dL_act_238 (by decide) ?_
          refine cB_i hJ.hd CF hK hN hA hS hP hD (b_count l D cI cZ cW cJ A X xo (flipL S.1 jc jr, S.2.1, (S.2.2.1.1, j9), S.2.2.2) u_229 3 (by decide) hJ) (cwV 1 hts gL_act_X8_count rfl rfl rfl (by decide +kernel) ⟨Nat.le_of_ble_eq_true rfl, Nat.le_of_ble_eq_true rfl⟩) (As := [.int 3]) (rest := []) rfl hl.1 rfl (Nat.le_of_ble_eq_true rfl) dL_act_239 ⟨Nat.le_of_ble_eq_true rfl, Nat.le_of_ble_eq_true rfl⟩ (fun r_239 u_239 H locs hq hP hD hS => ?_)
          obtain ⟨hrv, hJ⟩ := hq
          subst hrv
          refine top_i (y := (nI j9)) rfl ?_
          refine lv_iload hx hb dL_act_242 (lv_at hl 3 rfl) ?_
          have c_244 : ¬ ((nI S.2.2.1.2) : Int32) < (nI j9) := nI_lt0 (by omega) (by omega) hj1
          refine lv_icmp_gt (tgt := 262) hx hb dL_act_244 (by decide) (fun q => absurd q c_244) (fun _ => ?_)
          refine lv_aload_n hx hb dL_act_247 rfl (lv_at hl 10 rfl) ?_
          refine lv_bipush (v := 7) hx hb dL_act_248 (by decide) ?_
          refine cB_i hJ.hd CF hK hN hA hS hP hD (b_count l D cI cZ cW cJ A X xo (flipL S.1 jc jr, S.2.1, (S.2.2.1.1, j9), S.2.2.2) u_239 7 (by decide) hJ) (cwV 1 hts gL_act_X8_count rfl rfl rfl (by decide +kernel) ⟨Nat.le_of_ble_eq_true rfl, Nat.le_of_ble_eq_true rfl⟩) (As := [.int 7]) (rest := []) rfl hl.1 rfl (Nat.le_of_ble_eq_true rfl) dL_act_250 ⟨Nat.le_of_ble_eq_true rfl, Nat.le_of_ble_eq_true rfl⟩ (fun r_250 u_250 H locs hq hP hD hS => ?_)
          obtain ⟨hrv, hJ⟩ := hq
          subst hrv
          refine top_i (y := S.2.2.2.2.2) rfl ?_
          refine lv_iload hx hb dL_act_253 (lv_at hl 2 rfl) ?_
          have c_255 : (S.2.2.2.2.2 : Int32) = S.2.2.2.2.2 := rfl
          refine lv_icmp_ne (tgt := 262) hx hb dL_act_255 (by decide) (fun q => absurd c_255 q) (fun _ => ?_)
          refine lv_iconst (v := 1) hx hb dL_act_258 (by decide) ?_
          refine lv_goto (tgt := 263) hx hb dL_act_259 (by decide) ?_
          refine lv_istore (lv' := [(11, .int 1), (10, .int (bI (!S.1 jc jr))), (9, .int (bI (S.1 jc jr))), (8, .int S.2.2.2.2.2), (7, .int (nI S.2.2.1.2)), (6, .int (nI S.2.2.1.1)), (5, .int (nI jr)), (4, .int (nI jc)), (3, .int sd), (2, .int xw), (1, .int xv), (0, .ref xo)]) hx hb dL_act_263 hl (by decide) rfl (fun ls hl => ?_)
          refine lv_iload hx hb dL_act_265 (lv_at hl 0 rfl) ?_
          have c_267 : ¬ (1 : Int32) = 0 := by decide
          refine lv_if_eq (tgt := 347) hx hb dL_act_267 (by decide) (fun q => absurd q c_267) (fun _ => ?_)
          refine lv_iload hx hb dL_act_270 (lv_at hl 7 rfl) ?_
          refine lv_iload hx hb dL_act_272 (lv_at hl 5 rfl) ?_
          have c_274 : ((nI jc) : Int32) = (nI S.2.2.1.1) := congrArg nI hcol
          refine lv_icmp_eq (tgt := 347) hx hb dL_act_274 (by decide) (fun _ => ?_) (fun q => absurd c_274 q)
          refine lv_iload hx hb dL_act_347 (lv_at hl 0 rfl) ?_
          exact W.zret (v := 1) (ty := .boolean) hx hb hr (rfl) (fun t9 ht9 hW9 => ⟨⟨1, ((flipL S.1 jc jr, S.2.1, (S.2.2.1.1, j9), S.2.2.2), u_250), rfl, ⟨rfl, hJ, (show LW mm (flipL S.1 jc jr, S.2.1, (S.2.2.1.1, j9), S.2.2.2) from hLW).up (by omega)⟩, by rw [ht9]; exact hP, hD⟩, hS.F ht9⟩) hS.2.2 dL_act_349
        · obtain rfl := hj2 hcol
          have hb2 := build_back hW9 hjc hjr hcol
          refine lv_aload_n hx hb dL_act_132 rfl (lv_at hl 8 rfl) ?_
          refine lv_iload hx hb dL_act_133 (lv_at hl 4 rfl) ?_
          refine lv_iload hx hb dL_act_135 (lv_at hl 3 rfl) ?_
          refine lv_iconst (v := 0) hx hb dL_act_137 (by decide) ?_
          refine cB_i hJ.hd CF hK hN hA hS hP hD (b_cellOf l D cI cZ cW cJ A X xo S u_67 jc jr 0 (by omega) (by omega) (by decide) hJ) (cwV 3 hts gL_act_X8_cellOf rfl rfl rfl (by decide +kernel) ⟨Nat.le_of_ble_eq_true rfl, Nat.le_of_ble_eq_true rfl⟩) (As := [.int (nI jc), .int (nI jr), .int 0]) (rest := []) rfl hl.1 rfl (Nat.le_of_ble_eq_true rfl) dL_act_138 ⟨Nat.le_of_ble_eq_true rfl, Nat.le_of_ble_eq_true rfl⟩ (fun r_138 u_138 H locs hq hP hD hS => ?_)
          obtain ⟨hrv, hJ⟩ := hq
          subst hrv
          refine top_i (y := (bI (S.1 jc jr))) hc0 ?_
          refine lv_istore (lv' := [(9, .int (bI (S.1 jc jr))), (8, .int S.2.2.2.2.2), (7, .int (nI S.2.2.1.2)), (6, .int (nI S.2.2.1.1)), (5, .int (nI jr)), (4, .int (nI jc)), (3, .int sd), (2, .int xw), (1, .int xv), (0, .ref xo)]) hx hb dL_act_141 hl (by decide) rfl (fun ls hl => ?_)
          refine lv_aload_n hx hb dL_act_143 rfl (lv_at hl 9 rfl) ?_
          refine lv_iload hx hb dL_act_144 (lv_at hl 5 rfl) ?_
          refine lv_iload hx hb dL_act_146 (lv_at hl 4 rfl) ?_
          refine cB_i hJ.hd CF hK hN hA hS hP hD (b_build l D cI cZ cW cJ A X xo S u_138 jc jr (by omega) (by omega) hJ) (cwV 2 hts gL_act_X8_build rfl rfl rfl (by decide +kernel) ⟨Nat.le_of_ble_eq_true rfl, Nat.le_of_ble_eq_true rfl⟩) (As := [.int (nI jc), .int (nI jr)]) (rest := []) rfl hl.1 rfl (Nat.le_of_ble_eq_true rfl) dL_act_148 ⟨Nat.le_of_ble_eq_true rfl, Nat.le_of_ble_eq_true rfl⟩ (fun r_148 u_148 H locs hq hP hD hS => ?_)
          obtain ⟨hrv, hJ⟩ := hq
          subst hrv
          have hJ : YJ cI cZ cW xo (flipL S.1 jc jr, S.2.1, (S.2.2.1.1, S.2.2.1.2), S.2.2.2) u_148 := by have z := hJ; rw [hb1] at z; exact z
          refine top_i (y := (bI (!S.1 jc jr))) (by rw [hb1]) ?_
          refine lv_istore (lv' := [(10, .int (bI (!S.1 jc jr))), (9, .int (bI (S.1 jc jr))), (8, .int S.2.2.2.2.2), (7, .int (nI S.2.2.1.2)), (6, .int (nI S.2.2.1.1)), (5, .int (nI jr)), (4, .int (nI jc)), (3, .int sd), (2, .int xw), (1, .int xv), (0, .ref xo)]) hx hb dL_act_151 hl (by decide) rfl (fun ls hl => ?_)
          refine lv_iload hx hb dL_act_153 (lv_at hl 4 rfl) ?_
          refine lv_iload hx hb dL_act_155 (lv_at hl 6 rfl) ?_
          have c_157 : ¬ ((nI S.2.2.1.1) : Int32) = (nI jc) := nI_nee (by omega) (by omega) (fun q => hcol q.symm)
          refine lv_icmp_ne (tgt := 204) hx hb dL_act_157 (by decide) (fun _ => ?_) (fun q => absurd q c_157)
          refine lv_iload hx hb dL_act_204 (lv_at hl 0 rfl) ?_
          refine lv_iconst (v := 1) hx hb dL_act_206 (by decide) ?_
          refine lv_iload hx hb dL_act_207 (lv_at hl 1 rfl) ?_
          refine lv_isub hx hb dL_act_209 ?_
          have c_210 : ((bI (!S.1 jc jr)) : Int32) = (1 - (bI (S.1 jc jr))) := not_1 _
          refine lv_icmp_ne (tgt := 262) hx hb dL_act_210 (by decide) (fun q => absurd c_210 q) (fun _ => ?_)
          refine lv_aload_n hx hb dL_act_213 rfl (lv_at hl 10 rfl) ?_
          refine lv_iload hx hb dL_act_214 (lv_at hl 6 rfl) ?_
          refine lv_iload hx hb dL_act_216 (lv_at hl 5 rfl) ?_
          refine lv_iconst (v := 0) hx hb dL_act_218 (by decide) ?_
          refine cB_i hJ.hd CF hK hN hA hS hP hD (b_cellOf l D cI cZ cW cJ A X xo (flipL S.1 jc jr, S.2.1, (S.2.2.1.1, S.2.2.1.2), S.2.2.2) u_148 jc jr 0 (by omega) (by omega) (by decide) hJ) (cwV 3 hts gL_act_X8_cellOf rfl rfl rfl (by decide +kernel) ⟨Nat.le_of_ble_eq_true rfl, Nat.le_of_ble_eq_true rfl⟩) (As := [.int (nI jc), .int (nI jr), .int 0]) (rest := []) rfl hl.1 rfl (Nat.le_of_ble_eq_true rfl) dL_act_219 ⟨Nat.le_of_ble_eq_true rfl, Nat.le_of_ble_eq_true rfl⟩ (fun r_219 u_219 H locs hq hP hD hS => ?_)
          obtain ⟨hrv, hJ⟩ := hq
          subst hrv
          refine top_i (y := (bI (!S.1 jc jr))) hc1 ?_
          refine lv_iload hx hb dL_act_222 (lv_at hl 0 rfl) ?_
          have c_224 : ((bI (!S.1 jc jr)) : Int32) = (bI (!S.1 jc jr)) := rfl
          refine lv_icmp_ne (tgt := 262) hx hb dL_act_224 (by decide) (fun q => absurd c_224 q) (fun _ => ?_)
          refine lv_aload_n hx hb dL_act_227 rfl (lv_at hl 10 rfl) ?_
          refine lv_iconst (v := 2) hx hb dL_act_228 (by decide) ?_
          refine cB_i hJ.hd CF hK hN hA hS hP hD (b_count l D cI cZ cW cJ A X xo (flipL S.1 jc jr, S.2.1, (S.2.2.1.1, S.2.2.1.2), S.2.2.2) u_219 2 (by decide) hJ) (cwV 1 hts gL_act_X8_count rfl rfl rfl (by decide +kernel) ⟨Nat.le_of_ble_eq_true rfl, Nat.le_of_ble_eq_true rfl⟩) (As := [.int 2]) (rest := []) rfl hl.1 rfl (Nat.le_of_ble_eq_true rfl) dL_act_229 ⟨Nat.le_of_ble_eq_true rfl, Nat.le_of_ble_eq_true rfl⟩ (fun r_229 u_229 H locs hq hP hD hS => ?_)
          obtain ⟨hrv, hJ⟩ := hq
          subst hrv
          refine top_i (y := (nI S.2.2.1.1)) rfl ?_
          refine lv_iload hx hb dL_act_232 (lv_at hl 4 rfl) ?_
          have c_234 : ((nI S.2.2.1.1) : Int32) = (nI S.2.2.1.1) := rfl
          refine lv_icmp_ne (tgt := 262) hx hb dL_act_234 (by decide) (fun q => absurd c_234 q) (fun _ => ?_)
          refine lv_aload_n hx hb dL_act_237 rfl (lv_at hl 10 rfl) ?_
          refine lv_iconst (v := 3) hx hb dL_act_238 (by decide) ?_
          refine cB_i hJ.hd CF hK hN hA hS hP hD (b_count l D cI cZ cW cJ A X xo (flipL S.1 jc jr, S.2.1, (S.2.2.1.1, S.2.2.1.2), S.2.2.2) u_229 3 (by decide) hJ) (cwV 1 hts gL_act_X8_count rfl rfl rfl (by decide +kernel) ⟨Nat.le_of_ble_eq_true rfl, Nat.le_of_ble_eq_true rfl⟩) (As := [.int 3]) (rest := []) rfl hl.1 rfl (Nat.le_of_ble_eq_true rfl) dL_act_239 ⟨Nat.le_of_ble_eq_true rfl, Nat.le_of_ble_eq_true rfl⟩ (fun r_239 u_239 H locs hq hP hD hS => ?_)
          obtain ⟨hrv, hJ⟩ := hq
          subst hrv
          refine top_i (y := (nI S.2.2.1.2)) rfl ?_
          refine lv_iload hx hb dL_act_242 (lv_at hl 3 rfl) ?_
          have c_244 : ¬ ((nI S.2.2.1.2) : Int32) < (nI S.2.2.1.2) := Int32.lt_irrefl
          refine lv_icmp_gt (tgt := 262) hx hb dL_act_244 (by decide) (fun q => absurd q c_244) (fun _ => ?_)
          refine lv_aload_n hx hb dL_act_247 rfl (lv_at hl 10 rfl) ?_
          refine lv_bipush (v := 7) hx hb dL_act_248 (by decide) ?_
          refine cB_i hJ.hd CF hK hN hA hS hP hD (b_count l D cI cZ cW cJ A X xo (flipL S.1 jc jr, S.2.1, (S.2.2.1.1, S.2.2.1.2), S.2.2.2) u_239 7 (by decide) hJ) (cwV 1 hts gL_act_X8_count rfl rfl rfl (by decide +kernel) ⟨Nat.le_of_ble_eq_true rfl, Nat.le_of_ble_eq_true rfl⟩) (As := [.int 7]) (rest := []) rfl hl.1 rfl (Nat.le_of_ble_eq_true rfl) dL_act_250 ⟨Nat.le_of_ble_eq_true rfl, Nat.le_of_ble_eq_true rfl⟩ (fun r_250 u_250 H locs hq hP hD hS => ?_)
          obtain ⟨hrv, hJ⟩ := hq
          subst hrv
          refine top_i (y := S.2.2.2.2.2) rfl ?_
          refine lv_iload hx hb dL_act_253 (lv_at hl 2 rfl) ?_
          have c_255 : (S.2.2.2.2.2 : Int32) = S.2.2.2.2.2 := rfl
          refine lv_icmp_ne (tgt := 262) hx hb dL_act_255 (by decide) (fun q => absurd c_255 q) (fun _ => ?_)
          refine lv_iconst (v := 1) hx hb dL_act_258 (by decide) ?_
          refine lv_goto (tgt := 263) hx hb dL_act_259 (by decide) ?_
          refine lv_istore (lv' := [(11, .int 1), (10, .int (bI (!S.1 jc jr))), (9, .int (bI (S.1 jc jr))), (8, .int S.2.2.2.2.2), (7, .int (nI S.2.2.1.2)), (6, .int (nI S.2.2.1.1)), (5, .int (nI jr)), (4, .int (nI jc)), (3, .int sd), (2, .int xw), (1, .int xv), (0, .ref xo)]) hx hb dL_act_263 hl (by decide) rfl (fun ls hl => ?_)
          refine lv_iload hx hb dL_act_265 (lv_at hl 0 rfl) ?_
          have c_267 : ¬ (1 : Int32) = 0 := by decide
          refine lv_if_eq (tgt := 347) hx hb dL_act_267 (by decide) (fun q => absurd q c_267) (fun _ => ?_)
          refine lv_iload hx hb dL_act_270 (lv_at hl 7 rfl) ?_
          refine lv_iload hx hb dL_act_272 (lv_at hl 5 rfl) ?_
          have c_274 : ¬ ((nI jc) : Int32) = (nI S.2.2.1.1) := nI_nee (by omega) (by omega) hcol
          refine lv_icmp_eq (tgt := 347) hx hb dL_act_274 (by decide) (fun q => absurd q c_274) (fun _ => ?_)
          refine lv_aload_n hx hb dL_act_277 rfl (lv_at hl 11 rfl) ?_
          refine lv_iconst (v := 1) hx hb dL_act_278 (by decide) ?_
          refine cB_i hJ.hd CF hK hN hA hS hP hD (b_count l D cI cZ cW cJ A X xo (flipL S.1 jc jr, S.2.1, (S.2.2.1.1, S.2.2.1.2), S.2.2.2) u_250 1 (by decide) hJ) (cwV 1 hts gL_act_X8_count rfl rfl rfl (by decide +kernel) ⟨Nat.le_of_ble_eq_true rfl, Nat.le_of_ble_eq_true rfl⟩) (As := [.int 1]) (rest := []) rfl hl.1 rfl (Nat.le_of_ble_eq_true rfl) dL_act_279 ⟨Nat.le_of_ble_eq_true rfl, Nat.le_of_ble_eq_true rfl⟩ (fun r_279 u_279 H locs hq hP hD hS => ?_)
          obtain ⟨hrv, hJ⟩ := hq
          subst hrv
          refine lv_istore (lv' := [(12, .int (countS (flipL S.1 jc jr, S.2.1, (S.2.2.1.1, S.2.2.1.2), S.2.2.2) 0 1)), (11, .int 1), (10, .int (bI (!S.1 jc jr))), (9, .int (bI (S.1 jc jr))), (8, .int S.2.2.2.2.2), (7, .int (nI S.2.2.1.2)), (6, .int (nI S.2.2.1.1)), (5, .int (nI jr)), (4, .int (nI jc)), (3, .int sd), (2, .int xw), (1, .int xv), (0, .ref xo)]) hx hb dL_act_282 hl (by decide) rfl (fun ls hl => ?_)
          refine lv_aload_n hx hb dL_act_284 rfl (lv_at hl 12 rfl) ?_
          refine lv_iconst (v := 3) hx hb dL_act_285 (by decide) ?_
          refine cB_i hJ.hd CF hK hN hA hS hP hD (b_count l D cI cZ cW cJ A X xo (flipL S.1 jc jr, S.2.1, (S.2.2.1.1, S.2.2.1.2), S.2.2.2) u_279 3 (by decide) hJ) (cwV 1 hts gL_act_X8_count rfl rfl rfl (by decide +kernel) ⟨Nat.le_of_ble_eq_true rfl, Nat.le_of_ble_eq_true rfl⟩) (As := [.int 3]) (rest := []) rfl hl.1 rfl (Nat.le_of_ble_eq_true rfl) dL_act_286 ⟨Nat.le_of_ble_eq_true rfl, Nat.le_of_ble_eq_true rfl⟩ (fun r_286 u_286 H locs hq hP hD hS => ?_)
          obtain ⟨hrv, hJ⟩ := hq
          subst hrv
          refine top_i (y := (nI S.2.2.1.2)) rfl ?_
          refine lv_iload hx hb dL_act_289 (lv_at hl 5 rfl) ?_
          have c_291 : ((nI S.2.2.1.2) : Int32) = (nI S.2.2.1.2) := rfl
          refine lv_icmp_ne (tgt := 344) hx hb dL_act_291 (by decide) (fun q => absurd c_291 q) (fun _ => ?_)
          refine lv_aload_n hx hb dL_act_294 rfl (lv_at hl 12 rfl) ?_
          refine lv_iload hx hb dL_act_295 (lv_at hl 8 rfl) ?_
          refine lv_iload hx hb dL_act_297 (lv_at hl 7 rfl) ?_
          refine cB_i hJ.hd CF hK hN hA hS hP hD (b_build l D cI cZ cW cJ A X xo (flipL S.1 jc jr, S.2.1, (S.2.2.1.1, S.2.2.1.2), S.2.2.2) u_286 jc jr (by omega) (by omega) hJ) (cwV 2 hts gL_act_X8_build rfl rfl rfl (by decide +kernel) ⟨Nat.le_of_ble_eq_true rfl, Nat.le_of_ble_eq_true rfl⟩) (As := [.int (nI jc), .int (nI jr)]) (rest := []) rfl hl.1 rfl (Nat.le_of_ble_eq_true rfl) dL_act_299 ⟨Nat.le_of_ble_eq_true rfl, Nat.le_of_ble_eq_true rfl⟩ (fun r_299 u_299 H locs hq hP hD hS => ?_)
          obtain ⟨hrv, hJ⟩ := hq
          subst hrv
          have hJ : YJ cI cZ cW xo S u_299 := by have z := hJ; rw [hb2] at z; exact z
          refine top_i (y := (bI (S.1 jc jr))) (by rw [hb2]) ?_
          refine lv_iload hx hb dL_act_302 (lv_at hl 3 rfl) ?_
          have c_304 : ((bI (S.1 jc jr)) : Int32) = (bI (S.1 jc jr)) := rfl
          refine lv_icmp_ne (tgt := 344) hx hb dL_act_304 (by decide) (fun q => absurd c_304 q) (fun _ => ?_)
          refine lv_aload_n hx hb dL_act_307 rfl (lv_at hl 12 rfl) ?_
          refine lv_iload hx hb dL_act_308 (lv_at hl 8 rfl) ?_
          refine lv_iload hx hb dL_act_310 (lv_at hl 7 rfl) ?_
          refine cB_i hJ.hd CF hK hN hA hS hP hD (b_build l D cI cZ cW cJ A X xo S u_299 jc jr (by omega) (by omega) hJ) (cwV 2 hts gL_act_X8_build rfl rfl rfl (by decide +kernel) ⟨Nat.le_of_ble_eq_true rfl, Nat.le_of_ble_eq_true rfl⟩) (As := [.int (nI jc), .int (nI jr)]) (rest := []) rfl hl.1 rfl (Nat.le_of_ble_eq_true rfl) dL_act_312 ⟨Nat.le_of_ble_eq_true rfl, Nat.le_of_ble_eq_true rfl⟩ (fun r_312 u_312 H locs hq hP hD hS => ?_)
          obtain ⟨hrv, hJ⟩ := hq
          subst hrv
          have hJ : YJ cI cZ cW xo (flipL S.1 jc jr, S.2.1, (S.2.2.1.1, S.2.2.1.2), S.2.2.2) u_312 := by have z := hJ; rw [hb1] at z; exact z
          refine top_i (y := (bI (!S.1 jc jr))) (by rw [hb1]) ?_
          refine lv_iload hx hb dL_act_315 (lv_at hl 2 rfl) ?_
          have c_317 : ((bI (!S.1 jc jr)) : Int32) = (bI (!S.1 jc jr)) := rfl
          refine lv_icmp_ne (tgt := 344) hx hb dL_act_317 (by decide) (fun q => absurd c_317 q) (fun _ => ?_)
          refine lv_aload_n hx hb dL_act_320 rfl (lv_at hl 12 rfl) ?_
          refine lv_iconst (v := 1) hx hb dL_act_321 (by decide) ?_
          refine cB_i hJ.hd CF hK hN hA hS hP hD (b_count l D cI cZ cW cJ A X xo (flipL S.1 jc jr, S.2.1, (S.2.2.1.1, S.2.2.1.2), S.2.2.2) u_312 1 (by decide) hJ) (cwV 1 hts gL_act_X8_count rfl rfl rfl (by decide +kernel) ⟨Nat.le_of_ble_eq_true rfl, Nat.le_of_ble_eq_true rfl⟩) (As := [.int 1]) (rest := []) rfl hl.1 rfl (Nat.le_of_ble_eq_true rfl) dL_act_322 ⟨Nat.le_of_ble_eq_true rfl, Nat.le_of_ble_eq_true rfl⟩ (fun r_322 u_322 H locs hq hP hD hS => ?_)
          obtain ⟨hrv, hJ⟩ := hq
          subst hrv
          refine lv_iload hx hb dL_act_325 (lv_at hl 0 rfl) ?_
          have c_327 : ((countS (flipL S.1 jc jr, S.2.1, (S.2.2.1.1, S.2.2.1.2), S.2.2.2) 0 1) : Int32) = (countS (flipL S.1 jc jr, S.2.1, (S.2.2.1.1, S.2.2.1.2), S.2.2.2) 0 1) := rfl
          refine lv_icmp_ne (tgt := 344) hx hb dL_act_327 (by decide) (fun q => absurd c_327 q) (fun _ => ?_)
          refine lv_aload_n hx hb dL_act_330 rfl (lv_at hl 12 rfl) ?_
          refine lv_iconst (v := 3) hx hb dL_act_331 (by decide) ?_
          refine cB_i hJ.hd CF hK hN hA hS hP hD (b_count l D cI cZ cW cJ A X xo (flipL S.1 jc jr, S.2.1, (S.2.2.1.1, S.2.2.1.2), S.2.2.2) u_322 3 (by decide) hJ) (cwV 1 hts gL_act_X8_count rfl rfl rfl (by decide +kernel) ⟨Nat.le_of_ble_eq_true rfl, Nat.le_of_ble_eq_true rfl⟩) (As := [.int 3]) (rest := []) rfl hl.1 rfl (Nat.le_of_ble_eq_true rfl) dL_act_332 ⟨Nat.le_of_ble_eq_true rfl, Nat.le_of_ble_eq_true rfl⟩ (fun r_332 u_332 H locs hq hP hD hS => ?_)
          obtain ⟨hrv, hJ⟩ := hq
          subst hrv
          refine top_i (y := (nI S.2.2.1.2)) rfl ?_
          refine lv_iload hx hb dL_act_335 (lv_at hl 5 rfl) ?_
          have c_337 : ((nI S.2.2.1.2) : Int32) = (nI S.2.2.1.2) := rfl
          refine lv_icmp_ne (tgt := 344) hx hb dL_act_337 (by decide) (fun q => absurd c_337 q) (fun _ => ?_)
          refine lv_iconst (v := 1) hx hb dL_act_340 (by decide) ?_
          refine lv_goto (tgt := 345) hx hb dL_act_341 (by decide) ?_
          refine lv_istore (lv' := [(11, .int 1), (12, .int (countS (flipL S.1 jc jr, S.2.1, (S.2.2.1.1, S.2.2.1.2), S.2.2.2) 0 1)), (10, .int (bI (!S.1 jc jr))), (9, .int (bI (S.1 jc jr))), (8, .int S.2.2.2.2.2), (7, .int (nI S.2.2.1.2)), (6, .int (nI S.2.2.1.1)), (5, .int (nI jr)), (4, .int (nI jc)), (3, .int sd), (2, .int xw), (1, .int xv), (0, .ref xo)]) hx hb dL_act_345 hl (by decide) rfl (fun ls hl => ?_)
          refine lv_iload hx hb dL_act_347 (lv_at hl 0 rfl) ?_
          exact W.zret (v := 1) (ty := .boolean) hx hb hr (rfl) (fun t9 ht9 hW9 => ⟨⟨1, ((flipL S.1 jc jr, S.2.1, (S.2.2.1.1, S.2.2.1.2), S.2.2.2), u_332), rfl, ⟨rfl, hJ, (show LW mm (flipL S.1 jc jr, S.2.1, (S.2.2.1.1, S.2.2.1.2), S.2.2.2) from hLW).up (by omega)⟩, by rw [ht9]; exact hP, hD⟩, hS.F ht9⟩) hS.2.2 dL_act_349
    have join_350 : ∀  (H : Heap) (locs : List Loc) (hP : va_P D vwCl ((X ++ u_67)) H) (hD : va_D A ((X ++ u_67))) (hS : va_S A s.heap H locs) (ls : Array Slot) (hl : lv_has ls 16 [(8, .int S.2.2.2.2.2), (7, .int (nI S.2.2.1.2)), (6, .int (nI S.2.2.1.1)), (5, .int (nI jr)), (4, .int (nI jc)), (3, .int sd), (2, .int xw), (1, .int xv), (0, .ref xo)]), W p l e ({ frames := 7, cells := 0, slots := 0, locals := 166 } : Room) s m (([.ref xo, .int xv, .int xw] : List Value).toArray) below meth c H locs 0 0 (MQ below (va_Qi (fun (r : Int32) (u : KS × va_W) => r = 1 ∧ YJ cI cZ cW xo u.1 u.2 ∧ LW (mm + 1) u.1) (fun (u : KS × va_W) t => wq D A ((X ++ u.2)) t) A) (([.ref xo, .int xv, .int xw] : List Value).toArray) s 0 0 A) (F0 m 350 ls []) := by
      intro  H locs hP hD hS ls hl
      refine lv_iload_n hx hb dL_act_350 rfl (lv_at hl 6 rfl) ?_
      refine lv_iconst (v := 3) hx hb dL_act_351 (by decide) ?_
      refine lv_ishr hx hb dL_act_352 ?_
      refine lv_iconst (v := 3) hx hb dL_act_353 (by decide) ?_
      refine cS_i CF hK hN hA hS (cut_id hP hD) (l_low l D cI cZ cW cJ A (X ++ u_67) (xw >>> (3 &&& 31)) 3 (by decide)) (va_cwS 2 hts gL_act_L_low rfl rfl rfl (by decide +kernel) ⟨Nat.le_of_ble_eq_true rfl, Nat.le_of_ble_eq_true rfl⟩) (As := [.int (xw >>> (3 &&& 31)), .int 3]) (rest := []) rfl hl.1 rfl (Nat.le_of_ble_eq_true rfl) dL_act_354 ⟨Nat.le_of_ble_eq_true rfl, Nat.le_of_ble_eq_true rfl⟩ (fun r_354 u_354 H locs hq hP hD hS => ?_)
      obtain ⟨hk_354, hrv⟩ := hq
      subst hrv
      have hP : va_P D vwCl ((X ++ u_67)) H := hP
      have hD : va_D A ((X ++ u_67)) := hD
      refine lv_istore (lv' := [(9, .int (nI u_354)), (8, .int S.2.2.2.2.2), (7, .int (nI S.2.2.1.2)), (6, .int (nI S.2.2.1.1)), (5, .int (nI jr)), (4, .int (nI jc)), (3, .int sd), (2, .int xw), (1, .int xv), (0, .ref xo)]) hx hb dL_act_357 hl (by decide) rfl (fun ls hl => ?_)
      refine lv_iconst (v := 1) hx hb dL_act_359 (by decide) ?_
      refine lv_iload_n hx hb dL_act_360 rfl (lv_at hl 7 rfl) ?_
      refine lv_iconst (v := 5) hx hb dL_act_361 (by decide) ?_
      refine lv_ishr hx hb dL_act_362 ?_
      refine lv_iload hx hb dL_act_363 (lv_at hl 0 rfl) ?_
      refine lv_if_ne (tgt := 372) hx hb dL_act_365 (by decide) (fun c_365 => ?_) (fun c_365 => ?_)
      · refine lv_iconst (v := 5) hx hb dL_act_372 (by decide) ?_
        refine cS_i CF hK hN hA hS (cut_id hP hD) (l_low l D cI cZ cW cJ A (X ++ u_67) (xw >>> (5 &&& 31)) 5 (by decide)) (va_cwS 2 hts gL_act_L_low rfl rfl rfl (by decide +kernel) ⟨Nat.le_of_ble_eq_true rfl, Nat.le_of_ble_eq_true rfl⟩) (As := [.int (xw >>> (5 &&& 31)), .int 5]) (rest := [.int 1]) rfl hl.1 rfl (Nat.le_of_ble_eq_true rfl) dL_act_373 ⟨Nat.le_of_ble_eq_true rfl, Nat.le_of_ble_eq_true rfl⟩ (fun r_373 u_373 H locs hq hP hD hS => ?_)
        obtain ⟨hk_373, hrv⟩ := hq
        subst hrv
        have hP : va_P D vwCl ((X ++ u_67)) H := hP
        have hD : va_D A ((X ++ u_67)) := hD
        refine lv_iadd hx hb dL_act_376 ?_
        refine top_i (y := (nI (1 + u_373))) (nI_add 1 u_373) ?_
        refine lv_istore (lv' := [(10, .int (nI (1 + u_373))), (9, .int (nI u_354)), (8, .int S.2.2.2.2.2), (7, .int (nI S.2.2.1.2)), (6, .int (nI S.2.2.1.1)), (5, .int (nI jr)), (4, .int (nI jc)), (3, .int sd), (2, .int xw), (1, .int xv), (0, .ref xo)]) hx hb dL_act_377 hl (by decide) rfl (fun ls hl => ?_)
        have hv1 : ¬ (nI (1 + u_373) : Int32) < 1 := nI_lt0 (a := 1 + u_373) (b := 1) (by omega) (by decide) (by omega)
        have hv2 : nI (1 + u_373) ≤ gvI u_354 := set_le (Or.inr ⟨fun q => c_365 (congrArg nI q), by omega⟩)
        refine lv_aload_n hx hb dL_act_379 rfl (lv_at hl 10 rfl) ?_
        refine lv_iload hx hb dL_act_380 (lv_at hl 1 rfl) ?_
        refine cB_i hJ.hd CF hK hN hA hS hP hD (b_setting l D cI cZ cW cJ A X xo S u_67 u_354 (by omega) hJ) (cwV 1 hts gL_act_X8_setting rfl rfl rfl (by decide +kernel) ⟨Nat.le_of_ble_eq_true rfl, Nat.le_of_ble_eq_true rfl⟩) (As := [.int (nI u_354)]) (rest := []) rfl hl.1 rfl (Nat.le_of_ble_eq_true rfl) dL_act_382 ⟨Nat.le_of_ble_eq_true rfl, Nat.le_of_ble_eq_true rfl⟩ (fun r_382 u_382 H locs hq hP hD hS => ?_)
        obtain ⟨hrv, hJ⟩ := hq
        subst hrv
        refine lv_istore (lv' := [(11, .int (setS S u_354)), (10, .int (nI (1 + u_373))), (9, .int (nI u_354)), (8, .int S.2.2.2.2.2), (7, .int (nI S.2.2.1.2)), (6, .int (nI S.2.2.1.1)), (5, .int (nI jr)), (4, .int (nI jc)), (3, .int sd), (2, .int xw), (1, .int xv), (0, .ref xo)]) hx hb dL_act_385 hl (by decide) rfl (fun ls hl => ?_)
        refine lv_aload_n hx hb dL_act_387 rfl (lv_at hl 11 rfl) ?_
        refine lv_iload hx hb dL_act_388 (lv_at hl 2 rfl) ?_
        refine lv_iload hx hb dL_act_390 (lv_at hl 1 rfl) ?_
        refine cBz_i hZ hT hJ.hd CF hK hN hA hS hP hD (b_set l D cI cZ cW cJ A X xo S u_382 t0 u_354 (nI (1 + u_373)) (by omega) hv1 hv2 hJ) (cwV 2 hts gL_act_X8_set rfl rfl rfl (by decide +kernel) ⟨Nat.le_of_ble_eq_true rfl, Nat.le_of_ble_eq_true rfl⟩) (As := [.int (nI u_354), .int (nI (1 + u_373))]) (rest := []) rfl hl.1 rfl (Nat.le_of_ble_eq_true rfl) dL_act_392 ⟨Nat.le_of_ble_eq_true rfl, Nat.le_of_ble_eq_true rfl⟩ (fun r_392 u_392 H locs hq hP hD hS => ?_)
        obtain ⟨hrv, hJ⟩ := hq
        subst hrv
        refine lv_iload hx hb dL_act_395 (lv_at hl 0 rfl) ?_
        have c_397 : ((setS S u_354) : Int32) = (setS S u_354) := rfl
        refine lv_icmp_ne (tgt := 422) hx hb dL_act_397 (by decide) (fun q => absurd c_397 q) (fun _ => ?_)
        refine lv_aload_n hx hb dL_act_400 rfl (lv_at hl 11 rfl) ?_
        refine lv_iload hx hb dL_act_401 (lv_at hl 2 rfl) ?_
        refine cB_i hJ.hd CF hK hN hA hS hP hD (b_setting l D cI cZ cW cJ A X xo (putSet S u_354 (nI (1 + u_373))) u_392 u_354 (by omega) hJ) (cwV 1 hts gL_act_X8_setting rfl rfl rfl (by decide +kernel) ⟨Nat.le_of_ble_eq_true rfl, Nat.le_of_ble_eq_true rfl⟩) (As := [.int (nI u_354)]) (rest := []) rfl hl.1 rfl (Nat.le_of_ble_eq_true rfl) dL_act_403 ⟨Nat.le_of_ble_eq_true rfl, Nat.le_of_ble_eq_true rfl⟩ (fun r_403 u_403 H locs hq hP hD hS => ?_)
        obtain ⟨hrv, hJ⟩ := hq
        subst hrv
        refine top_i (y := (nI (1 + u_373))) (set_put (by omega) _) ?_
        refine lv_iload hx hb dL_act_406 (lv_at hl 1 rfl) ?_
        have c_408 : ((nI (1 + u_373)) : Int32) = (nI (1 + u_373)) := rfl
        refine lv_icmp_ne (tgt := 422) hx hb dL_act_408 (by decide) (fun q => absurd c_408 q) (fun _ => ?_)
        refine lv_aload_n hx hb dL_act_411 rfl (lv_at hl 11 rfl) ?_
        refine cS_i CF hK hN hA hS (cut_id hP hD) (l_areArcs l D cI cZ cW cJ A X xo (putSet S u_354 (nI (1 + u_373))) u_403 hJ) (va_cwS 1 hts gL_act_L_areArcs rfl rfl rfl (by decide +kernel) ⟨Nat.le_of_ble_eq_true rfl, Nat.le_of_ble_eq_true rfl⟩) (As := [.ref xo]) (rest := []) rfl hl.1 rfl (Nat.le_of_ble_eq_true rfl) dL_act_412 ⟨Nat.le_of_ble_eq_true rfl, Nat.le_of_ble_eq_true rfl⟩ (fun r_412 u_412 H locs hq hP hD hS => ?_)
        obtain ⟨hrv, hJ⟩ := hq
        subst hrv
        have hP : va_P D vwCl ((X ++ u_412)) H := hP
        have hD : va_D A ((X ++ u_412)) := hD
        have c_415 : ¬ (1 : Int32) = 0 := by decide
        refine lv_if_eq (tgt := 422) hx hb dL_act_415 (by decide) (fun q => absurd q c_415) (fun _ => ?_)
        refine lv_iconst (v := 1) hx hb dL_act_418 (by decide) ?_
        refine lv_goto (tgt := 423) hx hb dL_act_419 (by decide) ?_
        exact W.zret (v := 1) (ty := .boolean) hx hb hr (rfl) (fun t9 ht9 hW9 => ⟨⟨1, ((putSet S u_354 (nI (1 + u_373))), u_412), rfl, ⟨rfl, hJ, (hLW.set (show u_354 < 3 by omega) _).up (by omega)⟩, by rw [ht9]; exact hP, hD⟩, hS.F ht9⟩) hS.2.2 dL_act_423
      · refine lv_iconst (v := 4) hx hb dL_act_368 (by decide) ?_
        refine lv_goto (tgt := 373) hx hb dL_act_369 (by decide) ?_
        refine cS_i CF hK hN hA hS (cut_id hP hD) (l_low l D cI cZ cW cJ A (X ++ u_67) (xw >>> (5 &&& 31)) 4 (by decide)) (va_cwS 2 hts gL_act_L_low rfl rfl rfl (by decide +kernel) ⟨Nat.le_of_ble_eq_true rfl, Nat.le_of_ble_eq_true rfl⟩) (As := [.int (xw >>> (5 &&& 31)), .int 4]) (rest := [.int 1]) rfl hl.1 rfl (Nat.le_of_ble_eq_true rfl) dL_act_373 ⟨Nat.le_of_ble_eq_true rfl, Nat.le_of_ble_eq_true rfl⟩ (fun r_373 u_373 H locs hq hP hD hS => ?_)
        obtain ⟨hk_373, hrv⟩ := hq
        subst hrv
        have hP : va_P D vwCl ((X ++ u_67)) H := hP
        have hD : va_D A ((X ++ u_67)) := hD
        refine lv_iadd hx hb dL_act_376 ?_
        refine top_i (y := (nI (1 + u_373))) (nI_add 1 u_373) ?_
        refine lv_istore (lv' := [(10, .int (nI (1 + u_373))), (9, .int (nI u_354)), (8, .int S.2.2.2.2.2), (7, .int (nI S.2.2.1.2)), (6, .int (nI S.2.2.1.1)), (5, .int (nI jr)), (4, .int (nI jc)), (3, .int sd), (2, .int xw), (1, .int xv), (0, .ref xo)]) hx hb dL_act_377 hl (by decide) rfl (fun ls hl => ?_)
        have hv1 : ¬ (nI (1 + u_373) : Int32) < 1 := nI_lt0 (a := 1 + u_373) (b := 1) (by omega) (by decide) (by omega)
        have hv2 : nI (1 + u_373) ≤ gvI u_354 := set_le (Or.inl ⟨nI_inj (by omega) (by decide) c_365, by omega⟩)
        refine lv_aload_n hx hb dL_act_379 rfl (lv_at hl 10 rfl) ?_
        refine lv_iload hx hb dL_act_380 (lv_at hl 1 rfl) ?_
        refine cB_i hJ.hd CF hK hN hA hS hP hD (b_setting l D cI cZ cW cJ A X xo S u_67 u_354 (by omega) hJ) (cwV 1 hts gL_act_X8_setting rfl rfl rfl (by decide +kernel) ⟨Nat.le_of_ble_eq_true rfl, Nat.le_of_ble_eq_true rfl⟩) (As := [.int (nI u_354)]) (rest := []) rfl hl.1 rfl (Nat.le_of_ble_eq_true rfl) dL_act_382 ⟨Nat.le_of_ble_eq_true rfl, Nat.le_of_ble_eq_true rfl⟩ (fun r_382 u_382 H locs hq hP hD hS => ?_)
        obtain ⟨hrv, hJ⟩ := hq
        subst hrv
        refine lv_istore (lv' := [(11, .int (setS S u_354)), (10, .int (nI (1 + u_373))), (9, .int (nI u_354)), (8, .int S.2.2.2.2.2), (7, .int (nI S.2.2.1.2)), (6, .int (nI S.2.2.1.1)), (5, .int (nI jr)), (4, .int (nI jc)), (3, .int sd), (2, .int xw), (1, .int xv), (0, .ref xo)]) hx hb dL_act_385 hl (by decide) rfl (fun ls hl => ?_)
        refine lv_aload_n hx hb dL_act_387 rfl (lv_at hl 11 rfl) ?_
        refine lv_iload hx hb dL_act_388 (lv_at hl 2 rfl) ?_
        refine lv_iload hx hb dL_act_390 (lv_at hl 1 rfl) ?_
        refine cBz_i hZ hT hJ.hd CF hK hN hA hS hP hD (b_set l D cI cZ cW cJ A X xo S u_382 t0 u_354 (nI (1 + u_373)) (by omega) hv1 hv2 hJ) (cwV 2 hts gL_act_X8_set rfl rfl rfl (by decide +kernel) ⟨Nat.le_of_ble_eq_true rfl, Nat.le_of_ble_eq_true rfl⟩) (As := [.int (nI u_354), .int (nI (1 + u_373))]) (rest := []) rfl hl.1 rfl (Nat.le_of_ble_eq_true rfl) dL_act_392 ⟨Nat.le_of_ble_eq_true rfl, Nat.le_of_ble_eq_true rfl⟩ (fun r_392 u_392 H locs hq hP hD hS => ?_)
        obtain ⟨hrv, hJ⟩ := hq
        subst hrv
        refine lv_iload hx hb dL_act_395 (lv_at hl 0 rfl) ?_
        have c_397 : ((setS S u_354) : Int32) = (setS S u_354) := rfl
        refine lv_icmp_ne (tgt := 422) hx hb dL_act_397 (by decide) (fun q => absurd c_397 q) (fun _ => ?_)
        refine lv_aload_n hx hb dL_act_400 rfl (lv_at hl 11 rfl) ?_
        refine lv_iload hx hb dL_act_401 (lv_at hl 2 rfl) ?_
        refine cB_i hJ.hd CF hK hN hA hS hP hD (b_setting l D cI cZ cW cJ A X xo (putSet S u_354 (nI (1 + u_373))) u_392 u_354 (by omega) hJ) (cwV 1 hts gL_act_X8_setting rfl rfl rfl (by decide +kernel) ⟨Nat.le_of_ble_eq_true rfl, Nat.le_of_ble_eq_true rfl⟩) (As := [.int (nI u_354)]) (rest := []) rfl hl.1 rfl (Nat.le_of_ble_eq_true rfl) dL_act_403 ⟨Nat.le_of_ble_eq_true rfl, Nat.le_of_ble_eq_true rfl⟩ (fun r_403 u_403 H locs hq hP hD hS => ?_)
        obtain ⟨hrv, hJ⟩ := hq
        subst hrv
        refine top_i (y := (nI (1 + u_373))) (set_put (by omega) _) ?_
        refine lv_iload hx hb dL_act_406 (lv_at hl 1 rfl) ?_
        have c_408 : ((nI (1 + u_373)) : Int32) = (nI (1 + u_373)) := rfl
        refine lv_icmp_ne (tgt := 422) hx hb dL_act_408 (by decide) (fun q => absurd c_408 q) (fun _ => ?_)
        refine lv_aload_n hx hb dL_act_411 rfl (lv_at hl 11 rfl) ?_
        refine cS_i CF hK hN hA hS (cut_id hP hD) (l_areArcs l D cI cZ cW cJ A X xo (putSet S u_354 (nI (1 + u_373))) u_403 hJ) (va_cwS 1 hts gL_act_L_areArcs rfl rfl rfl (by decide +kernel) ⟨Nat.le_of_ble_eq_true rfl, Nat.le_of_ble_eq_true rfl⟩) (As := [.ref xo]) (rest := []) rfl hl.1 rfl (Nat.le_of_ble_eq_true rfl) dL_act_412 ⟨Nat.le_of_ble_eq_true rfl, Nat.le_of_ble_eq_true rfl⟩ (fun r_412 u_412 H locs hq hP hD hS => ?_)
        obtain ⟨hrv, hJ⟩ := hq
        subst hrv
        have hP : va_P D vwCl ((X ++ u_412)) H := hP
        have hD : va_D A ((X ++ u_412)) := hD
        have c_415 : ¬ (1 : Int32) = 0 := by decide
        refine lv_if_eq (tgt := 422) hx hb dL_act_415 (by decide) (fun q => absurd q c_415) (fun _ => ?_)
        refine lv_iconst (v := 1) hx hb dL_act_418 (by decide) ?_
        refine lv_goto (tgt := 423) hx hb dL_act_419 (by decide) ?_
        exact W.zret (v := 1) (ty := .boolean) hx hb hr (rfl) (fun t9 ht9 hW9 => ⟨⟨1, ((putSet S u_354 (nI (1 + u_373))), u_412), rfl, ⟨rfl, hJ, (hLW.set (show u_354 < 3 by omega) _).up (by omega)⟩, by rw [ht9]; exact hP, hD⟩, hS.F ht9⟩) hS.2.2 dL_act_423
    have join_424 : ∀  (H : Heap) (locs : List Loc) (hP : va_P D vwCl ((X ++ u_67)) H) (hD : va_D A ((X ++ u_67))) (hS : va_S A s.heap H locs) (ls : Array Slot) (hl : lv_has ls 16 [(8, .int S.2.2.2.2.2), (7, .int (nI S.2.2.1.2)), (6, .int (nI S.2.2.1.1)), (5, .int (nI jr)), (4, .int (nI jc)), (3, .int sd), (2, .int xw), (1, .int xv), (0, .ref xo)]), W p l e ({ frames := 7, cells := 0, slots := 0, locals := 166 } : Room) s m (([.ref xo, .int xv, .int xw] : List Value).toArray) below meth c H locs 0 0 (MQ below (va_Qi (fun (r : Int32) (u : KS × va_W) => r = 1 ∧ YJ cI cZ cW xo u.1 u.2 ∧ LW (mm + 1) u.1) (fun (u : KS × va_W) t => wq D A ((X ++ u.2)) t) A) (([.ref xo, .int xv, .int xw] : List Value).toArray) s 0 0 A) (F0 m 424 ls []) := by
      intro  H locs hP hD hS ls hl
      rcases side_sp hw1 hd with ⟨x9, hx9, ex9, hnear⟩ | ⟨eo, ho⟩ | ⟨eo, ho⟩
      · by_cases hst9 : stB (Bk S.1) (nI x9) (nI S.2.2.1.2) = true
        · have hwk := walk_ok ex9 hx9 hst9
          refine lv_iload hx hb dL_act_424 (lv_at hl 2 rfl) ?_
          refine lv_iload_n hx hb dL_act_426 rfl (lv_at hl 5 rfl) ?_
          refine lv_iadd hx hb dL_act_427 ?_
          refine top_i (y := (nI x9)) ex9 ?_
          have c_428 : ¬ ((nI x9) : Int32) < 0 := nI_pos (by omega)
          refine lv_if_lt (tgt := 459) hx hb dL_act_428 (by decide) (fun q => absurd q c_428) (fun _ => ?_)
          refine lv_iload hx hb dL_act_431 (lv_at hl 2 rfl) ?_
          refine lv_iload_n hx hb dL_act_433 rfl (lv_at hl 5 rfl) ?_
          refine lv_iadd hx hb dL_act_434 ?_
          refine top_i (y := (nI x9)) ex9 ?_
          refine lv_bipush (v := 20) hx hb dL_act_435 (by decide) ?_
          have c_437 : ¬ (20 : Int32) ≤ (nI x9) := nI_len (a := 20) (b := x9) (by decide) (by omega) hx9
          refine lv_icmp_ge (tgt := 459) hx hb dL_act_437 (by decide) (fun q => absurd q c_437) (fun _ => ?_)
          refine lv_aload_n hx hb dL_act_440 rfl (lv_at hl 8 rfl) ?_
          refine lv_iload hx hb dL_act_441 (lv_at hl 2 rfl) ?_
          refine lv_iload_n hx hb dL_act_443 rfl (lv_at hl 5 rfl) ?_
          refine lv_iadd hx hb dL_act_444 ?_
          refine top_i (y := (nI x9)) ex9 ?_
          refine lv_iload hx hb dL_act_445 (lv_at hl 1 rfl) ?_
          refine lv_iconst (v := 1) hx hb dL_act_447 (by decide) ?_
          refine cB_i hJ.hd CF hK hN hA hS hP hD (b_cellOf l D cI cZ cW cJ A X xo S u_67 x9 S.2.2.1.2 1 (by omega) (by omega) (by decide) hJ) (cwV 3 hts gL_act_X8_cellOf rfl rfl rfl (by decide +kernel) ⟨Nat.le_of_ble_eq_true rfl, Nat.le_of_ble_eq_true rfl⟩) (As := [.int (nI x9), .int (nI S.2.2.1.2), .int 1]) (rest := []) rfl hl.1 rfl (Nat.le_of_ble_eq_true rfl) dL_act_448 ⟨Nat.le_of_ble_eq_true rfl, Nat.le_of_ble_eq_true rfl⟩ (fun r_448 u_448 H locs hq hP hD hS => ?_)
          obtain ⟨hrv, hJ⟩ := hq
          subst hrv
          refine top_i (y := 1) ((cell_st hx9 hst9).1) ?_
          refine lv_iconst (v := 1) hx hb dL_act_451 (by decide) ?_
          have c_452 : (1 : Int32) = 1 := rfl
          refine lv_icmp_ne (tgt := 459) hx hb dL_act_452 (by decide) (fun q => absurd c_452 q) (fun _ => ?_)
          refine lv_iconst (v := 1) hx hb dL_act_455 (by decide) ?_
          refine lv_goto (tgt := 460) hx hb dL_act_456 (by decide) ?_
          refine lv_istore (lv' := [(9, .int 1), (8, .int S.2.2.2.2.2), (7, .int (nI S.2.2.1.2)), (6, .int (nI S.2.2.1.1)), (5, .int (nI jr)), (4, .int (nI jc)), (3, .int sd), (2, .int xw), (1, .int xv), (0, .ref xo)]) hx hb dL_act_460 hl (by decide) rfl (fun ls hl => ?_)
          refine lv_aload_n hx hb dL_act_462 rfl (lv_at hl 9 rfl) ?_
          refine lv_iconst (v := 4) hx hb dL_act_463 (by decide) ?_
          refine cB_i hJ.hd CF hK hN hA hS hP hD (b_count l D cI cZ cW cJ A X xo S u_448 4 (by decide) hJ) (cwV 1 hts gL_act_X8_count rfl rfl rfl (by decide +kernel) ⟨Nat.le_of_ble_eq_true rfl, Nat.le_of_ble_eq_true rfl⟩) (As := [.int 4]) (rest := []) rfl hl.1 rfl (Nat.le_of_ble_eq_true rfl) dL_act_464 ⟨Nat.le_of_ble_eq_true rfl, Nat.le_of_ble_eq_true rfl⟩ (fun r_464 u_464 H locs hq hP hD hS => ?_)
          obtain ⟨hrv, hJ⟩ := hq
          subst hrv
          refine top_i (y := (nI (owS S))) rfl ?_
          refine lv_istore (lv' := [(10, .int (nI (owS S))), (9, .int 1), (8, .int S.2.2.2.2.2), (7, .int (nI S.2.2.1.2)), (6, .int (nI S.2.2.1.1)), (5, .int (nI jr)), (4, .int (nI jc)), (3, .int sd), (2, .int xw), (1, .int xv), (0, .ref xo)]) hx hb dL_act_467 hl (by decide) rfl (fun ls hl => ?_)
          refine lv_aload_n hx hb dL_act_469 rfl (lv_at hl 10 rfl) ?_
          refine lv_iload_n hx hb dL_act_470 rfl (lv_at hl 7 rfl) ?_
          refine cB_i hJ.hd CF hK hN hA hS hP hD (b_walk l D cI cZ cW cJ A X xo S u_464 sd hd hJ) (cwV 1 hts gL_act_X8_walk rfl rfl rfl (by decide +kernel) ⟨Nat.le_of_ble_eq_true rfl, Nat.le_of_ble_eq_true rfl⟩) (As := [.int sd]) (rest := []) rfl hl.1 rfl (Nat.le_of_ble_eq_true rfl) dL_act_471 ⟨Nat.le_of_ble_eq_true rfl, Nat.le_of_ble_eq_true rfl⟩ (fun r_471 u_471 H locs hq hP hD hS => ?_)
          obtain ⟨hrv, hJ⟩ := hq
          subst hrv
          have hJ : YJ cI cZ cW xo (S.1, S.2.1, (x9, S.2.2.1.2), S.2.2.2) u_471 := by have z := hJ; rw [hwk] at z; exact z
          refine top_i (y := (nI x9)) (by rw [hwk]) ?_
          refine lv_iload hx hb dL_act_474 (lv_at hl 1 rfl) ?_
          have c_476 : ¬ (1 : Int32) = 0 := by decide
          refine lv_if_eq (tgt := 486) hx hb dL_act_476 (by decide) (fun q => absurd q c_476) (fun _ => ?_)
          refine lv_iload hx hb dL_act_479 (lv_at hl 4 rfl) ?_
          refine lv_iload_n hx hb dL_act_481 rfl (lv_at hl 7 rfl) ?_
          refine lv_iadd hx hb dL_act_482 ?_
          refine top_i (y := (nI x9)) ex9 ?_
          refine lv_goto (tgt := 487) hx hb dL_act_483 (by decide) ?_
          have c_487 : ((nI x9) : Int32) = (nI x9) := rfl
          refine lv_icmp_ne (tgt := 548) hx hb dL_act_487 (by decide) (fun q => absurd c_487 q) (fun _ => ?_)
          refine lv_aload_n hx hb dL_act_490 rfl (lv_at hl 10 rfl) ?_
          refine lv_iconst (v := 2) hx hb dL_act_491 (by decide) ?_
          refine cB_i hJ.hd CF hK hN hA hS hP hD (b_count l D cI cZ cW cJ A X xo (S.1, S.2.1, (x9, S.2.2.1.2), S.2.2.2) u_471 2 (by decide) hJ) (cwV 1 hts gL_act_X8_count rfl rfl rfl (by decide +kernel) ⟨Nat.le_of_ble_eq_true rfl, Nat.le_of_ble_eq_true rfl⟩) (As := [.int 2]) (rest := []) rfl hl.1 rfl (Nat.le_of_ble_eq_true rfl) dL_act_492 ⟨Nat.le_of_ble_eq_true rfl, Nat.le_of_ble_eq_true rfl⟩ (fun r_492 u_492 H locs hq hP hD hS => ?_)
          obtain ⟨hrv, hJ⟩ := hq
          subst hrv
          refine top_i (y := (nI x9)) rfl ?_
          refine lv_iload hx hb dL_act_495 (lv_at hl 1 rfl) ?_
          have c_497 : ¬ (1 : Int32) = 0 := by decide
          refine lv_if_eq (tgt := 507) hx hb dL_act_497 (by decide) (fun q => absurd q c_497) (fun _ => ?_)
          refine lv_iload hx hb dL_act_500 (lv_at hl 4 rfl) ?_
          refine lv_iload_n hx hb dL_act_502 rfl (lv_at hl 7 rfl) ?_
          refine lv_iadd hx hb dL_act_503 ?_
          refine top_i (y := (nI x9)) ex9 ?_
          refine lv_goto (tgt := 509) hx hb dL_act_504 (by decide) ?_
          have c_509 : ((nI x9) : Int32) = (nI x9) := rfl
          refine lv_icmp_ne (tgt := 548) hx hb dL_act_509 (by decide) (fun q => absurd c_509 q) (fun _ => ?_)
          refine lv_aload_n hx hb dL_act_512 rfl (lv_at hl 10 rfl) ?_
          refine lv_iconst (v := 4) hx hb dL_act_513 (by decide) ?_
          refine cB_i hJ.hd CF hK hN hA hS hP hD (b_count l D cI cZ cW cJ A X xo (S.1, S.2.1, (x9, S.2.2.1.2), S.2.2.2) u_492 4 (by decide) hJ) (cwV 1 hts gL_act_X8_count rfl rfl rfl (by decide +kernel) ⟨Nat.le_of_ble_eq_true rfl, Nat.le_of_ble_eq_true rfl⟩) (As := [.int 4]) (rest := []) rfl hl.1 rfl (Nat.le_of_ble_eq_true rfl) dL_act_514 ⟨Nat.le_of_ble_eq_true rfl, Nat.le_of_ble_eq_true rfl⟩ (fun r_514 u_514 H locs hq hP hD hS => ?_)
          obtain ⟨hrv, hJ⟩ := hq
          subst hrv
          refine top_i (y := (nI (owS S))) (congrArg nI (own_near hW9 hx9 hnear hst9)) ?_
          refine lv_iload hx hb dL_act_517 (lv_at hl 0 rfl) ?_
          have c_519 : ((nI (owS S)) : Int32) = (nI (owS S)) := rfl
          refine lv_icmp_ne (tgt := 548) hx hb dL_act_519 (by decide) (fun q => absurd c_519 q) (fun _ => ?_)
          refine lv_aload_n hx hb dL_act_522 rfl (lv_at hl 10 rfl) ?_
          refine lv_bipush (v := 7) hx hb dL_act_523 (by decide) ?_
          refine cB_i hJ.hd CF hK hN hA hS hP hD (b_count l D cI cZ cW cJ A X xo (S.1, S.2.1, (x9, S.2.2.1.2), S.2.2.2) u_514 7 (by decide) hJ) (cwV 1 hts gL_act_X8_count rfl rfl rfl (by decide +kernel) ⟨Nat.le_of_ble_eq_true rfl, Nat.le_of_ble_eq_true rfl⟩) (As := [.int 7]) (rest := []) rfl hl.1 rfl (Nat.le_of_ble_eq_true rfl) dL_act_525 ⟨Nat.le_of_ble_eq_true rfl, Nat.le_of_ble_eq_true rfl⟩ (fun r_525 u_525 H locs hq hP hD hS => ?_)
          obtain ⟨hrv, hJ⟩ := hq
          subst hrv
          refine top_i (y := S.2.2.2.2.2) rfl ?_
          refine lv_iload hx hb dL_act_528 (lv_at hl 2 rfl) ?_
          refine lv_iload hx hb dL_act_530 (lv_at hl 1 rfl) ?_
          have c_532 : ¬ (1 : Int32) = 0 := by decide
          refine lv_if_eq (tgt := 539) hx hb dL_act_532 (by decide) (fun q => absurd q c_532) (fun _ => ?_)
          refine lv_iconst (v := 0) hx hb dL_act_535 (by decide) ?_
          refine lv_goto (tgt := 540) hx hb dL_act_536 (by decide) ?_
          refine lv_iadd hx hb dL_act_540 ?_
          refine top_i (y := S.2.2.2.2.2) (Int32.add_zero _) ?_
          have c_541 : (S.2.2.2.2.2 : Int32) = S.2.2.2.2.2 := rfl
          refine lv_icmp_ne (tgt := 548) hx hb dL_act_541 (by decide) (fun q => absurd c_541 q) (fun _ => ?_)
          refine lv_iconst (v := 1) hx hb dL_act_544 (by decide) ?_
          refine lv_goto (tgt := 549) hx hb dL_act_545 (by decide) ?_
          exact W.zret (v := 1) (ty := .boolean) hx hb hr (rfl) (fun t9 ht9 hW9 => ⟨⟨1, ((S.1, S.2.1, (x9, S.2.2.1.2), S.2.2.2), u_525), rfl, ⟨rfl, hJ, (show LW mm (S.1, S.2.1, (x9, S.2.2.1.2), S.2.2.2) from hLW).up (by omega)⟩, by rw [ht9]; exact hP, hD⟩, hS.F ht9⟩) hS.2.2 dL_act_549
        · have hwk : walkK S sd = (refK S, -1) := walk_no (by rw [ex9]; exact not_t hst9)
          refine lv_iload hx hb dL_act_424 (lv_at hl 2 rfl) ?_
          refine lv_iload_n hx hb dL_act_426 rfl (lv_at hl 5 rfl) ?_
          refine lv_iadd hx hb dL_act_427 ?_
          refine top_i (y := (nI x9)) ex9 ?_
          have c_428 : ¬ ((nI x9) : Int32) < 0 := nI_pos (by omega)
          refine lv_if_lt (tgt := 459) hx hb dL_act_428 (by decide) (fun q => absurd q c_428) (fun _ => ?_)
          refine lv_iload hx hb dL_act_431 (lv_at hl 2 rfl) ?_
          refine lv_iload_n hx hb dL_act_433 rfl (lv_at hl 5 rfl) ?_
          refine lv_iadd hx hb dL_act_434 ?_
          refine top_i (y := (nI x9)) ex9 ?_
          refine lv_bipush (v := 20) hx hb dL_act_435 (by decide) ?_
          have c_437 : ¬ (20 : Int32) ≤ (nI x9) := nI_len (a := 20) (b := x9) (by decide) (by omega) hx9
          refine lv_icmp_ge (tgt := 459) hx hb dL_act_437 (by decide) (fun q => absurd q c_437) (fun _ => ?_)
          refine lv_aload_n hx hb dL_act_440 rfl (lv_at hl 8 rfl) ?_
          refine lv_iload hx hb dL_act_441 (lv_at hl 2 rfl) ?_
          refine lv_iload_n hx hb dL_act_443 rfl (lv_at hl 5 rfl) ?_
          refine lv_iadd hx hb dL_act_444 ?_
          refine top_i (y := (nI x9)) ex9 ?_
          refine lv_iload hx hb dL_act_445 (lv_at hl 1 rfl) ?_
          refine lv_iconst (v := 1) hx hb dL_act_447 (by decide) ?_
          refine cB_i hJ.hd CF hK hN hA hS hP hD (b_cellOf l D cI cZ cW cJ A X xo S u_67 x9 S.2.2.1.2 1 (by omega) (by omega) (by decide) hJ) (cwV 3 hts gL_act_X8_cellOf rfl rfl rfl (by decide +kernel) ⟨Nat.le_of_ble_eq_true rfl, Nat.le_of_ble_eq_true rfl⟩) (As := [.int (nI x9), .int (nI S.2.2.1.2), .int 1]) (rest := []) rfl hl.1 rfl (Nat.le_of_ble_eq_true rfl) dL_act_448 ⟨Nat.le_of_ble_eq_true rfl, Nat.le_of_ble_eq_true rfl⟩ (fun r_448 u_448 H locs hq hP hD hS => ?_)
          obtain ⟨hrv, hJ⟩ := hq
          subst hrv
          refine top_i (y := 0) ((cell_no hx9 (not_t hst9)).1) ?_
          refine lv_iconst (v := 1) hx hb dL_act_451 (by decide) ?_
          have c_452 : ¬ (0 : Int32) = 1 := by decide
          refine lv_icmp_ne (tgt := 459) hx hb dL_act_452 (by decide) (fun _ => ?_) (fun q => absurd q c_452)
          refine lv_iconst (v := 0) hx hb dL_act_459 (by decide) ?_
          refine lv_istore (lv' := [(9, .int 0), (8, .int S.2.2.2.2.2), (7, .int (nI S.2.2.1.2)), (6, .int (nI S.2.2.1.1)), (5, .int (nI jr)), (4, .int (nI jc)), (3, .int sd), (2, .int xw), (1, .int xv), (0, .ref xo)]) hx hb dL_act_460 hl (by decide) rfl (fun ls hl => ?_)
          refine lv_aload_n hx hb dL_act_462 rfl (lv_at hl 9 rfl) ?_
          refine lv_iconst (v := 4) hx hb dL_act_463 (by decide) ?_
          refine cB_i hJ.hd CF hK hN hA hS hP hD (b_count l D cI cZ cW cJ A X xo S u_448 4 (by decide) hJ) (cwV 1 hts gL_act_X8_count rfl rfl rfl (by decide +kernel) ⟨Nat.le_of_ble_eq_true rfl, Nat.le_of_ble_eq_true rfl⟩) (As := [.int 4]) (rest := []) rfl hl.1 rfl (Nat.le_of_ble_eq_true rfl) dL_act_464 ⟨Nat.le_of_ble_eq_true rfl, Nat.le_of_ble_eq_true rfl⟩ (fun r_464 u_464 H locs hq hP hD hS => ?_)
          obtain ⟨hrv, hJ⟩ := hq
          subst hrv
          refine top_i (y := (nI (owS S))) rfl ?_
          refine lv_istore (lv' := [(10, .int (nI (owS S))), (9, .int 0), (8, .int S.2.2.2.2.2), (7, .int (nI S.2.2.1.2)), (6, .int (nI S.2.2.1.1)), (5, .int (nI jr)), (4, .int (nI jc)), (3, .int sd), (2, .int xw), (1, .int xv), (0, .ref xo)]) hx hb dL_act_467 hl (by decide) rfl (fun ls hl => ?_)
          refine lv_aload_n hx hb dL_act_469 rfl (lv_at hl 10 rfl) ?_
          refine lv_iload_n hx hb dL_act_470 rfl (lv_at hl 7 rfl) ?_
          refine cB_i hJ.hd CF hK hN hA hS hP hD (b_walk l D cI cZ cW cJ A X xo S u_464 sd hd hJ) (cwV 1 hts gL_act_X8_walk rfl rfl rfl (by decide +kernel) ⟨Nat.le_of_ble_eq_true rfl, Nat.le_of_ble_eq_true rfl⟩) (As := [.int sd]) (rest := []) rfl hl.1 rfl (Nat.le_of_ble_eq_true rfl) dL_act_471 ⟨Nat.le_of_ble_eq_true rfl, Nat.le_of_ble_eq_true rfl⟩ (fun r_471 u_471 H locs hq hP hD hS => ?_)
          obtain ⟨hrv, hJ⟩ := hq
          subst hrv
          have hJ : YJ cI cZ cW xo (refK S) u_471 := by have z := hJ; rw [hwk] at z; exact z
          refine top_i (y := (-1)) (by rw [hwk]) ?_
          refine lv_iload hx hb dL_act_474 (lv_at hl 1 rfl) ?_
          have c_476 : (0 : Int32) = 0 := rfl
          refine lv_if_eq (tgt := 486) hx hb dL_act_476 (by decide) (fun _ => ?_) (fun q => absurd c_476 q)
          refine lv_iconst (v := (-1)) hx hb dL_act_486 (by decide) ?_
          have c_487 : ((-1) : Int32) = (-1) := rfl
          refine lv_icmp_ne (tgt := 548) hx hb dL_act_487 (by decide) (fun q => absurd c_487 q) (fun _ => ?_)
          refine lv_aload_n hx hb dL_act_490 rfl (lv_at hl 10 rfl) ?_
          refine lv_iconst (v := 2) hx hb dL_act_491 (by decide) ?_
          refine cB_i hJ.hd CF hK hN hA hS hP hD (b_count l D cI cZ cW cJ A X xo (refK S) u_471 2 (by decide) hJ) (cwV 1 hts gL_act_X8_count rfl rfl rfl (by decide +kernel) ⟨Nat.le_of_ble_eq_true rfl, Nat.le_of_ble_eq_true rfl⟩) (As := [.int 2]) (rest := []) rfl hl.1 rfl (Nat.le_of_ble_eq_true rfl) dL_act_492 ⟨Nat.le_of_ble_eq_true rfl, Nat.le_of_ble_eq_true rfl⟩ (fun r_492 u_492 H locs hq hP hD hS => ?_)
          obtain ⟨hrv, hJ⟩ := hq
          subst hrv
          refine top_i (y := (nI S.2.2.1.1)) rfl ?_
          refine lv_iload hx hb dL_act_495 (lv_at hl 1 rfl) ?_
          have c_497 : (0 : Int32) = 0 := rfl
          refine lv_if_eq (tgt := 507) hx hb dL_act_497 (by decide) (fun _ => ?_) (fun q => absurd c_497 q)
          refine lv_iload hx hb dL_act_507 (lv_at hl 4 rfl) ?_
          have c_509 : ((nI S.2.2.1.1) : Int32) = (nI S.2.2.1.1) := rfl
          refine lv_icmp_ne (tgt := 548) hx hb dL_act_509 (by decide) (fun q => absurd c_509 q) (fun _ => ?_)
          refine lv_aload_n hx hb dL_act_512 rfl (lv_at hl 10 rfl) ?_
          refine lv_iconst (v := 4) hx hb dL_act_513 (by decide) ?_
          refine cB_i hJ.hd CF hK hN hA hS hP hD (b_count l D cI cZ cW cJ A X xo (refK S) u_492 4 (by decide) hJ) (cwV 1 hts gL_act_X8_count rfl rfl rfl (by decide +kernel) ⟨Nat.le_of_ble_eq_true rfl, Nat.le_of_ble_eq_true rfl⟩) (As := [.int 4]) (rest := []) rfl hl.1 rfl (Nat.le_of_ble_eq_true rfl) dL_act_514 ⟨Nat.le_of_ble_eq_true rfl, Nat.le_of_ble_eq_true rfl⟩ (fun r_514 u_514 H locs hq hP hD hS => ?_)
          obtain ⟨hrv, hJ⟩ := hq
          subst hrv
          refine top_i (y := (nI (owS S))) rfl ?_
          refine lv_iload hx hb dL_act_517 (lv_at hl 0 rfl) ?_
          have c_519 : ((nI (owS S)) : Int32) = (nI (owS S)) := rfl
          refine lv_icmp_ne (tgt := 548) hx hb dL_act_519 (by decide) (fun q => absurd c_519 q) (fun _ => ?_)
          refine lv_aload_n hx hb dL_act_522 rfl (lv_at hl 10 rfl) ?_
          refine lv_bipush (v := 7) hx hb dL_act_523 (by decide) ?_
          refine cB_i hJ.hd CF hK hN hA hS hP hD (b_count l D cI cZ cW cJ A X xo (refK S) u_514 7 (by decide) hJ) (cwV 1 hts gL_act_X8_count rfl rfl rfl (by decide +kernel) ⟨Nat.le_of_ble_eq_true rfl, Nat.le_of_ble_eq_true rfl⟩) (As := [.int 7]) (rest := []) rfl hl.1 rfl (Nat.le_of_ble_eq_true rfl) dL_act_525 ⟨Nat.le_of_ble_eq_true rfl, Nat.le_of_ble_eq_true rfl⟩ (fun r_525 u_525 H locs hq hP hD hS => ?_)
          obtain ⟨hrv, hJ⟩ := hq
          subst hrv
          refine top_i (y := (S.2.2.2.2.2 + 1)) rfl ?_
          refine lv_iload hx hb dL_act_528 (lv_at hl 2 rfl) ?_
          refine lv_iload hx hb dL_act_530 (lv_at hl 1 rfl) ?_
          have c_532 : (0 : Int32) = 0 := rfl
          refine lv_if_eq (tgt := 539) hx hb dL_act_532 (by decide) (fun _ => ?_) (fun q => absurd c_532 q)
          refine lv_iconst (v := 1) hx hb dL_act_539 (by decide) ?_
          refine lv_iadd hx hb dL_act_540 ?_
          have c_541 : ((S.2.2.2.2.2 + 1) : Int32) = (S.2.2.2.2.2 + 1) := rfl
          refine lv_icmp_ne (tgt := 548) hx hb dL_act_541 (by decide) (fun q => absurd c_541 q) (fun _ => ?_)
          refine lv_iconst (v := 1) hx hb dL_act_544 (by decide) ?_
          refine lv_goto (tgt := 549) hx hb dL_act_545 (by decide) ?_
          exact W.zret (v := 1) (ty := .boolean) hx hb hr (rfl) (fun t9 ht9 hW9 => ⟨⟨1, (refK S, u_525), rfl, ⟨rfl, hJ, (show LW mm (refK S) from hLW).up (by omega)⟩, by rw [ht9]; exact hP, hD⟩, hS.F ht9⟩) hS.2.2 dL_act_549
      · have hwk : walkK S sd = (refK S, -1) := walk_no (st_out (Or.inl ho))
        refine lv_iload hx hb dL_act_424 (lv_at hl 2 rfl) ?_
        refine lv_iload_n hx hb dL_act_426 rfl (lv_at hl 5 rfl) ?_
        refine lv_iadd hx hb dL_act_427 ?_
        refine top_i (y := (-1)) eo ?_
        have c_428 : ((-1) : Int32) < 0 := by decide
        refine lv_if_lt (tgt := 459) hx hb dL_act_428 (by decide) (fun _ => ?_) (fun q => absurd c_428 q)
        refine lv_iconst (v := 0) hx hb dL_act_459 (by decide) ?_
        refine lv_istore (lv' := [(9, .int 0), (8, .int S.2.2.2.2.2), (7, .int (nI S.2.2.1.2)), (6, .int (nI S.2.2.1.1)), (5, .int (nI jr)), (4, .int (nI jc)), (3, .int sd), (2, .int xw), (1, .int xv), (0, .ref xo)]) hx hb dL_act_460 hl (by decide) rfl (fun ls hl => ?_)
        refine lv_aload_n hx hb dL_act_462 rfl (lv_at hl 9 rfl) ?_
        refine lv_iconst (v := 4) hx hb dL_act_463 (by decide) ?_
        refine cB_i hJ.hd CF hK hN hA hS hP hD (b_count l D cI cZ cW cJ A X xo S u_67 4 (by decide) hJ) (cwV 1 hts gL_act_X8_count rfl rfl rfl (by decide +kernel) ⟨Nat.le_of_ble_eq_true rfl, Nat.le_of_ble_eq_true rfl⟩) (As := [.int 4]) (rest := []) rfl hl.1 rfl (Nat.le_of_ble_eq_true rfl) dL_act_464 ⟨Nat.le_of_ble_eq_true rfl, Nat.le_of_ble_eq_true rfl⟩ (fun r_464 u_464 H locs hq hP hD hS => ?_)
        obtain ⟨hrv, hJ⟩ := hq
        subst hrv
        refine top_i (y := (nI (owS S))) rfl ?_
        refine lv_istore (lv' := [(10, .int (nI (owS S))), (9, .int 0), (8, .int S.2.2.2.2.2), (7, .int (nI S.2.2.1.2)), (6, .int (nI S.2.2.1.1)), (5, .int (nI jr)), (4, .int (nI jc)), (3, .int sd), (2, .int xw), (1, .int xv), (0, .ref xo)]) hx hb dL_act_467 hl (by decide) rfl (fun ls hl => ?_)
        refine lv_aload_n hx hb dL_act_469 rfl (lv_at hl 10 rfl) ?_
        refine lv_iload_n hx hb dL_act_470 rfl (lv_at hl 7 rfl) ?_
        refine cB_i hJ.hd CF hK hN hA hS hP hD (b_walk l D cI cZ cW cJ A X xo S u_464 sd hd hJ) (cwV 1 hts gL_act_X8_walk rfl rfl rfl (by decide +kernel) ⟨Nat.le_of_ble_eq_true rfl, Nat.le_of_ble_eq_true rfl⟩) (As := [.int sd]) (rest := []) rfl hl.1 rfl (Nat.le_of_ble_eq_true rfl) dL_act_471 ⟨Nat.le_of_ble_eq_true rfl, Nat.le_of_ble_eq_true rfl⟩ (fun r_471 u_471 H locs hq hP hD hS => ?_)
        obtain ⟨hrv, hJ⟩ := hq
        subst hrv
        have hJ : YJ cI cZ cW xo (refK S) u_471 := by have z := hJ; rw [hwk] at z; exact z
        refine top_i (y := (-1)) (by rw [hwk]) ?_
        refine lv_iload hx hb dL_act_474 (lv_at hl 1 rfl) ?_
        have c_476 : (0 : Int32) = 0 := rfl
        refine lv_if_eq (tgt := 486) hx hb dL_act_476 (by decide) (fun _ => ?_) (fun q => absurd c_476 q)
        refine lv_iconst (v := (-1)) hx hb dL_act_486 (by decide) ?_
        have c_487 : ((-1) : Int32) = (-1) := rfl
        refine lv_icmp_ne (tgt := 548) hx hb dL_act_487 (by decide) (fun q => absurd c_487 q) (fun _ => ?_)
        refine lv_aload_n hx hb dL_act_490 rfl (lv_at hl 10 rfl) ?_
        refine lv_iconst (v := 2) hx hb dL_act_491 (by decide) ?_
        refine cB_i hJ.hd CF hK hN hA hS hP hD (b_count l D cI cZ cW cJ A X xo (refK S) u_471 2 (by decide) hJ) (cwV 1 hts gL_act_X8_count rfl rfl rfl (by decide +kernel) ⟨Nat.le_of_ble_eq_true rfl, Nat.le_of_ble_eq_true rfl⟩) (As := [.int 2]) (rest := []) rfl hl.1 rfl (Nat.le_of_ble_eq_true rfl) dL_act_492 ⟨Nat.le_of_ble_eq_true rfl, Nat.le_of_ble_eq_true rfl⟩ (fun r_492 u_492 H locs hq hP hD hS => ?_)
        obtain ⟨hrv, hJ⟩ := hq
        subst hrv
        refine top_i (y := (nI S.2.2.1.1)) rfl ?_
        refine lv_iload hx hb dL_act_495 (lv_at hl 1 rfl) ?_
        have c_497 : (0 : Int32) = 0 := rfl
        refine lv_if_eq (tgt := 507) hx hb dL_act_497 (by decide) (fun _ => ?_) (fun q => absurd c_497 q)
        refine lv_iload hx hb dL_act_507 (lv_at hl 4 rfl) ?_
        have c_509 : ((nI S.2.2.1.1) : Int32) = (nI S.2.2.1.1) := rfl
        refine lv_icmp_ne (tgt := 548) hx hb dL_act_509 (by decide) (fun q => absurd c_509 q) (fun _ => ?_)
        refine lv_aload_n hx hb dL_act_512 rfl (lv_at hl 10 rfl) ?_
        refine lv_iconst (v := 4) hx hb dL_act_513 (by decide) ?_
        refine cB_i hJ.hd CF hK hN hA hS hP hD (b_count l D cI cZ cW cJ A X xo (refK S) u_492 4 (by decide) hJ) (cwV 1 hts gL_act_X8_count rfl rfl rfl (by decide +kernel) ⟨Nat.le_of_ble_eq_true rfl, Nat.le_of_ble_eq_true rfl⟩) (As := [.int 4]) (rest := []) rfl hl.1 rfl (Nat.le_of_ble_eq_true rfl) dL_act_514 ⟨Nat.le_of_ble_eq_true rfl, Nat.le_of_ble_eq_true rfl⟩ (fun r_514 u_514 H locs hq hP hD hS => ?_)
        obtain ⟨hrv, hJ⟩ := hq
        subst hrv
        refine top_i (y := (nI (owS S))) rfl ?_
        refine lv_iload hx hb dL_act_517 (lv_at hl 0 rfl) ?_
        have c_519 : ((nI (owS S)) : Int32) = (nI (owS S)) := rfl
        refine lv_icmp_ne (tgt := 548) hx hb dL_act_519 (by decide) (fun q => absurd c_519 q) (fun _ => ?_)
        refine lv_aload_n hx hb dL_act_522 rfl (lv_at hl 10 rfl) ?_
        refine lv_bipush (v := 7) hx hb dL_act_523 (by decide) ?_
        refine cB_i hJ.hd CF hK hN hA hS hP hD (b_count l D cI cZ cW cJ A X xo (refK S) u_514 7 (by decide) hJ) (cwV 1 hts gL_act_X8_count rfl rfl rfl (by decide +kernel) ⟨Nat.le_of_ble_eq_true rfl, Nat.le_of_ble_eq_true rfl⟩) (As := [.int 7]) (rest := []) rfl hl.1 rfl (Nat.le_of_ble_eq_true rfl) dL_act_525 ⟨Nat.le_of_ble_eq_true rfl, Nat.le_of_ble_eq_true rfl⟩ (fun r_525 u_525 H locs hq hP hD hS => ?_)
        obtain ⟨hrv, hJ⟩ := hq
        subst hrv
        refine top_i (y := (S.2.2.2.2.2 + 1)) rfl ?_
        refine lv_iload hx hb dL_act_528 (lv_at hl 2 rfl) ?_
        refine lv_iload hx hb dL_act_530 (lv_at hl 1 rfl) ?_
        have c_532 : (0 : Int32) = 0 := rfl
        refine lv_if_eq (tgt := 539) hx hb dL_act_532 (by decide) (fun _ => ?_) (fun q => absurd c_532 q)
        refine lv_iconst (v := 1) hx hb dL_act_539 (by decide) ?_
        refine lv_iadd hx hb dL_act_540 ?_
        have c_541 : ((S.2.2.2.2.2 + 1) : Int32) = (S.2.2.2.2.2 + 1) := rfl
        refine lv_icmp_ne (tgt := 548) hx hb dL_act_541 (by decide) (fun q => absurd c_541 q) (fun _ => ?_)
        refine lv_iconst (v := 1) hx hb dL_act_544 (by decide) ?_
        refine lv_goto (tgt := 549) hx hb dL_act_545 (by decide) ?_
        exact W.zret (v := 1) (ty := .boolean) hx hb hr (rfl) (fun t9 ht9 hW9 => ⟨⟨1, (refK S, u_525), rfl, ⟨rfl, hJ, (show LW mm (refK S) from hLW).up (by omega)⟩, by rw [ht9]; exact hP, hD⟩, hS.F ht9⟩) hS.2.2 dL_act_549
      · have hwk : walkK S sd = (refK S, -1) := walk_no (st_out (Or.inr (by rw [eo]; exact Int32.le_refl _)))
        refine lv_iload hx hb dL_act_424 (lv_at hl 2 rfl) ?_
        refine lv_iload_n hx hb dL_act_426 rfl (lv_at hl 5 rfl) ?_
        refine lv_iadd hx hb dL_act_427 ?_
        refine top_i (y := 20) eo ?_
        have c_428 : ¬ (20 : Int32) < 0 := by decide
        refine lv_if_lt (tgt := 459) hx hb dL_act_428 (by decide) (fun q => absurd q c_428) (fun _ => ?_)
        refine lv_iload hx hb dL_act_431 (lv_at hl 2 rfl) ?_
        refine lv_iload_n hx hb dL_act_433 rfl (lv_at hl 5 rfl) ?_
        refine lv_iadd hx hb dL_act_434 ?_
        refine top_i (y := 20) eo ?_
        refine lv_bipush (v := 20) hx hb dL_act_435 (by decide) ?_
        have c_437 : (20 : Int32) ≤ 20 := Int32.le_refl _
        refine lv_icmp_ge (tgt := 459) hx hb dL_act_437 (by decide) (fun _ => ?_) (fun q => absurd c_437 q)
        refine lv_iconst (v := 0) hx hb dL_act_459 (by decide) ?_
        refine lv_istore (lv' := [(9, .int 0), (8, .int S.2.2.2.2.2), (7, .int (nI S.2.2.1.2)), (6, .int (nI S.2.2.1.1)), (5, .int (nI jr)), (4, .int (nI jc)), (3, .int sd), (2, .int xw), (1, .int xv), (0, .ref xo)]) hx hb dL_act_460 hl (by decide) rfl (fun ls hl => ?_)
        refine lv_aload_n hx hb dL_act_462 rfl (lv_at hl 9 rfl) ?_
        refine lv_iconst (v := 4) hx hb dL_act_463 (by decide) ?_
        refine cB_i hJ.hd CF hK hN hA hS hP hD (b_count l D cI cZ cW cJ A X xo S u_67 4 (by decide) hJ) (cwV 1 hts gL_act_X8_count rfl rfl rfl (by decide +kernel) ⟨Nat.le_of_ble_eq_true rfl, Nat.le_of_ble_eq_true rfl⟩) (As := [.int 4]) (rest := []) rfl hl.1 rfl (Nat.le_of_ble_eq_true rfl) dL_act_464 ⟨Nat.le_of_ble_eq_true rfl, Nat.le_of_ble_eq_true rfl⟩ (fun r_464 u_464 H locs hq hP hD hS => ?_)
        obtain ⟨hrv, hJ⟩ := hq
        subst hrv
        refine top_i (y := (nI (owS S))) rfl ?_
        refine lv_istore (lv' := [(10, .int (nI (owS S))), (9, .int 0), (8, .int S.2.2.2.2.2), (7, .int (nI S.2.2.1.2)), (6, .int (nI S.2.2.1.1)), (5, .int (nI jr)), (4, .int (nI jc)), (3, .int sd), (2, .int xw), (1, .int xv), (0, .ref xo)]) hx hb dL_act_467 hl (by decide) rfl (fun ls hl => ?_)
        refine lv_aload_n hx hb dL_act_469 rfl (lv_at hl 10 rfl) ?_
        refine lv_iload_n hx hb dL_act_470 rfl (lv_at hl 7 rfl) ?_
        refine cB_i hJ.hd CF hK hN hA hS hP hD (b_walk l D cI cZ cW cJ A X xo S u_464 sd hd hJ) (cwV 1 hts gL_act_X8_walk rfl rfl rfl (by decide +kernel) ⟨Nat.le_of_ble_eq_true rfl, Nat.le_of_ble_eq_true rfl⟩) (As := [.int sd]) (rest := []) rfl hl.1 rfl (Nat.le_of_ble_eq_true rfl) dL_act_471 ⟨Nat.le_of_ble_eq_true rfl, Nat.le_of_ble_eq_true rfl⟩ (fun r_471 u_471 H locs hq hP hD hS => ?_)
        obtain ⟨hrv, hJ⟩ := hq
        subst hrv
        have hJ : YJ cI cZ cW xo (refK S) u_471 := by have z := hJ; rw [hwk] at z; exact z
        refine top_i (y := (-1)) (by rw [hwk]) ?_
        refine lv_iload hx hb dL_act_474 (lv_at hl 1 rfl) ?_
        have c_476 : (0 : Int32) = 0 := rfl
        refine lv_if_eq (tgt := 486) hx hb dL_act_476 (by decide) (fun _ => ?_) (fun q => absurd c_476 q)
        refine lv_iconst (v := (-1)) hx hb dL_act_486 (by decide) ?_
        have c_487 : ((-1) : Int32) = (-1) := rfl
        refine lv_icmp_ne (tgt := 548) hx hb dL_act_487 (by decide) (fun q => absurd c_487 q) (fun _ => ?_)
        refine lv_aload_n hx hb dL_act_490 rfl (lv_at hl 10 rfl) ?_
        refine lv_iconst (v := 2) hx hb dL_act_491 (by decide) ?_
        refine cB_i hJ.hd CF hK hN hA hS hP hD (b_count l D cI cZ cW cJ A X xo (refK S) u_471 2 (by decide) hJ) (cwV 1 hts gL_act_X8_count rfl rfl rfl (by decide +kernel) ⟨Nat.le_of_ble_eq_true rfl, Nat.le_of_ble_eq_true rfl⟩) (As := [.int 2]) (rest := []) rfl hl.1 rfl (Nat.le_of_ble_eq_true rfl) dL_act_492 ⟨Nat.le_of_ble_eq_true rfl, Nat.le_of_ble_eq_true rfl⟩ (fun r_492 u_492 H locs hq hP hD hS => ?_)
        obtain ⟨hrv, hJ⟩ := hq
        subst hrv
        refine top_i (y := (nI S.2.2.1.1)) rfl ?_
        refine lv_iload hx hb dL_act_495 (lv_at hl 1 rfl) ?_
        have c_497 : (0 : Int32) = 0 := rfl
        refine lv_if_eq (tgt := 507) hx hb dL_act_497 (by decide) (fun _ => ?_) (fun q => absurd c_497 q)
        refine lv_iload hx hb dL_act_507 (lv_at hl 4 rfl) ?_
        have c_509 : ((nI S.2.2.1.1) : Int32) = (nI S.2.2.1.1) := rfl
        refine lv_icmp_ne (tgt := 548) hx hb dL_act_509 (by decide) (fun q => absurd c_509 q) (fun _ => ?_)
        refine lv_aload_n hx hb dL_act_512 rfl (lv_at hl 10 rfl) ?_
        refine lv_iconst (v := 4) hx hb dL_act_513 (by decide) ?_
        refine cB_i hJ.hd CF hK hN hA hS hP hD (b_count l D cI cZ cW cJ A X xo (refK S) u_492 4 (by decide) hJ) (cwV 1 hts gL_act_X8_count rfl rfl rfl (by decide +kernel) ⟨Nat.le_of_ble_eq_true rfl, Nat.le_of_ble_eq_true rfl⟩) (As := [.int 4]) (rest := []) rfl hl.1 rfl (Nat.le_of_ble_eq_true rfl) dL_act_514 ⟨Nat.le_of_ble_eq_true rfl, Nat.le_of_ble_eq_true rfl⟩ (fun r_514 u_514 H locs hq hP hD hS => ?_)
        obtain ⟨hrv, hJ⟩ := hq
        subst hrv
        refine top_i (y := (nI (owS S))) rfl ?_
        refine lv_iload hx hb dL_act_517 (lv_at hl 0 rfl) ?_
        have c_519 : ((nI (owS S)) : Int32) = (nI (owS S)) := rfl
        refine lv_icmp_ne (tgt := 548) hx hb dL_act_519 (by decide) (fun q => absurd c_519 q) (fun _ => ?_)
        refine lv_aload_n hx hb dL_act_522 rfl (lv_at hl 10 rfl) ?_
        refine lv_bipush (v := 7) hx hb dL_act_523 (by decide) ?_
        refine cB_i hJ.hd CF hK hN hA hS hP hD (b_count l D cI cZ cW cJ A X xo (refK S) u_514 7 (by decide) hJ) (cwV 1 hts gL_act_X8_count rfl rfl rfl (by decide +kernel) ⟨Nat.le_of_ble_eq_true rfl, Nat.le_of_ble_eq_true rfl⟩) (As := [.int 7]) (rest := []) rfl hl.1 rfl (Nat.le_of_ble_eq_true rfl) dL_act_525 ⟨Nat.le_of_ble_eq_true rfl, Nat.le_of_ble_eq_true rfl⟩ (fun r_525 u_525 H locs hq hP hD hS => ?_)
        obtain ⟨hrv, hJ⟩ := hq
        subst hrv
        refine top_i (y := (S.2.2.2.2.2 + 1)) rfl ?_
        refine lv_iload hx hb dL_act_528 (lv_at hl 2 rfl) ?_
        refine lv_iload hx hb dL_act_530 (lv_at hl 1 rfl) ?_
        have c_532 : (0 : Int32) = 0 := rfl
        refine lv_if_eq (tgt := 539) hx hb dL_act_532 (by decide) (fun _ => ?_) (fun q => absurd c_532 q)
        refine lv_iconst (v := 1) hx hb dL_act_539 (by decide) ?_
        refine lv_iadd hx hb dL_act_540 ?_
        have c_541 : ((S.2.2.2.2.2 + 1) : Int32) = (S.2.2.2.2.2 + 1) := rfl
        refine lv_icmp_ne (tgt := 548) hx hb dL_act_541 (by decide) (fun q => absurd c_541 q) (fun _ => ?_)
        refine lv_iconst (v := 1) hx hb dL_act_544 (by decide) ?_
        refine lv_goto (tgt := 549) hx hb dL_act_545 (by decide) ?_
        exact W.zret (v := 1) (ty := .boolean) hx hb hr (rfl) (fun t9 ht9 hW9 => ⟨⟨1, (refK S, u_525), rfl, ⟨rfl, hJ, (show LW mm (refK S) from hLW).up (by omega)⟩, by rw [ht9]; exact hP, hD⟩, hS.F ht9⟩) hS.2.2 dL_act_549
    have join_550 : ∀  (H : Heap) (locs : List Loc) (hP : va_P D vwCl ((X ++ u_67)) H) (hD : va_D A ((X ++ u_67))) (hS : va_S A s.heap H locs) (ls : Array Slot) (hl : lv_has ls 16 [(8, .int S.2.2.2.2.2), (7, .int (nI S.2.2.1.2)), (6, .int (nI S.2.2.1.1)), (5, .int (nI jr)), (4, .int (nI jc)), (3, .int sd), (2, .int xw), (1, .int xv), (0, .ref xo)]), W p l e ({ frames := 7, cells := 0, slots := 0, locals := 166 } : Room) s m (([.ref xo, .int xv, .int xw] : List Value).toArray) below meth c H locs 0 0 (MQ below (va_Qi (fun (r : Int32) (u : KS × va_W) => r = 1 ∧ YJ cI cZ cW xo u.1 u.2 ∧ LW (mm + 1) u.1) (fun (u : KS × va_W) t => wq D A ((X ++ u.2)) t) A) (([.ref xo, .int xv, .int xw] : List Value).toArray) s 0 0 A) (F0 m 550 ls []) := by
      intro  H locs hP hD hS ls hl
      by_cases hst9 : stB (Bk S.1) (nI jc) (nI jr) = true
      · have hpk := put_ok hjc hst9
        have hlg := (cell_st hjc hst9).2
        have hlb := (lgN_lt (show 20 * jr + jc < 200 by omega) (by rw [SB_rc hjc]; exact hst9)).2
        obtain ⟨lg9, elg⟩ : ∃ z, lgN (SB (Bk S.1)) (20 * jr + jc) = z := ⟨_, rfl⟩
        rw [elg] at hpk hlg hlb
        refine lv_aload_n hx hb dL_act_550 rfl (lv_at hl 8 rfl) ?_
        refine lv_iload hx hb dL_act_551 (lv_at hl 4 rfl) ?_
        refine lv_iload hx hb dL_act_553 (lv_at hl 3 rfl) ?_
        refine lv_iconst (v := 2) hx hb dL_act_555 (by decide) ?_
        refine cB_i hJ.hd CF hK hN hA hS hP hD (b_cellOf l D cI cZ cW cJ A X xo S u_67 jc jr 2 (by omega) (by omega) (by decide) hJ) (cwV 3 hts gL_act_X8_cellOf rfl rfl rfl (by decide +kernel) ⟨Nat.le_of_ble_eq_true rfl, Nat.le_of_ble_eq_true rfl⟩) (As := [.int (nI jc), .int (nI jr), .int 2]) (rest := []) rfl hl.1 rfl (Nat.le_of_ble_eq_true rfl) dL_act_556 ⟨Nat.le_of_ble_eq_true rfl, Nat.le_of_ble_eq_true rfl⟩ (fun r_556 u_556 H locs hq hP hD hS => ?_)
        obtain ⟨hrv, hJ⟩ := hq
        subst hrv
        refine top_i (y := (nI lg9)) hlg ?_
        refine lv_istore (lv' := [(9, .int (nI lg9)), (8, .int S.2.2.2.2.2), (7, .int (nI S.2.2.1.2)), (6, .int (nI S.2.2.1.1)), (5, .int (nI jr)), (4, .int (nI jc)), (3, .int sd), (2, .int xw), (1, .int xv), (0, .ref xo)]) hx hb dL_act_559 hl (by decide) rfl (fun ls hl => ?_)
        refine lv_aload_n hx hb dL_act_561 rfl (lv_at hl 9 rfl) ?_
        refine lv_iload hx hb dL_act_562 (lv_at hl 5 rfl) ?_
        refine lv_iload hx hb dL_act_564 (lv_at hl 4 rfl) ?_
        refine cB_i hJ.hd CF hK hN hA hS hP hD (b_put l D cI cZ cW cJ A X xo S u_556 jc jr (by omega) (by omega) hJ) (cwV 2 hts gL_act_X8_put rfl rfl rfl (by decide +kernel) ⟨Nat.le_of_ble_eq_true rfl, Nat.le_of_ble_eq_true rfl⟩) (As := [.int (nI jc), .int (nI jr)]) (rest := []) rfl hl.1 rfl (Nat.le_of_ble_eq_true rfl) dL_act_566 ⟨Nat.le_of_ble_eq_true rfl, Nat.le_of_ble_eq_true rfl⟩ (fun r_566 u_566 H locs hq hP hD hS => ?_)
        obtain ⟨hrv, hJ⟩ := hq
        subst hrv
        have hJ : YJ cI cZ cW xo (S.1, S.2.1, (jc, jr), S.2.2.2) u_566 := by have z := hJ; rw [hpk] at z; exact z
        refine top_i (y := (nI lg9)) (by rw [hpk]) ?_
        refine lv_iload hx hb dL_act_569 (lv_at hl 0 rfl) ?_
        have c_571 : ((nI lg9) : Int32) = (nI lg9) := rfl
        refine lv_icmp_ne (tgt := 649) hx hb dL_act_571 (by decide) (fun q => absurd c_571 q) (fun _ => ?_)
        refine lv_iload hx hb dL_act_574 (lv_at hl 0 rfl) ?_
        have c_576 : (0 : Int32) ≤ (nI lg9) := Int32.not_lt.mp (nI_pos (by omega))
        refine lv_if_ge (tgt := 615) hx hb dL_act_576 (by decide) (fun _ => ?_) (fun q => absurd c_576 q)
        refine lv_aload_n hx hb dL_act_615 rfl (lv_at hl 9 rfl) ?_
        refine lv_iconst (v := 2) hx hb dL_act_616 (by decide) ?_
        refine cB_i hJ.hd CF hK hN hA hS hP hD (b_count l D cI cZ cW cJ A X xo (S.1, S.2.1, (jc, jr), S.2.2.2) u_566 2 (by decide) hJ) (cwV 1 hts gL_act_X8_count rfl rfl rfl (by decide +kernel) ⟨Nat.le_of_ble_eq_true rfl, Nat.le_of_ble_eq_true rfl⟩) (As := [.int 2]) (rest := []) rfl hl.1 rfl (Nat.le_of_ble_eq_true rfl) dL_act_617 ⟨Nat.le_of_ble_eq_true rfl, Nat.le_of_ble_eq_true rfl⟩ (fun r_617 u_617 H locs hq hP hD hS => ?_)
        obtain ⟨hrv, hJ⟩ := hq
        subst hrv
        refine top_i (y := (nI jc)) rfl ?_
        refine lv_iload hx hb dL_act_620 (lv_at hl 5 rfl) ?_
        have c_622 : ((nI jc) : Int32) = (nI jc) := rfl
        refine lv_icmp_ne (tgt := 649) hx hb dL_act_622 (by decide) (fun q => absurd c_622 q) (fun _ => ?_)
        refine lv_aload_n hx hb dL_act_625 rfl (lv_at hl 9 rfl) ?_
        refine lv_iconst (v := 3) hx hb dL_act_626 (by decide) ?_
        refine cB_i hJ.hd CF hK hN hA hS hP hD (b_count l D cI cZ cW cJ A X xo (S.1, S.2.1, (jc, jr), S.2.2.2) u_617 3 (by decide) hJ) (cwV 1 hts gL_act_X8_count rfl rfl rfl (by decide +kernel) ⟨Nat.le_of_ble_eq_true rfl, Nat.le_of_ble_eq_true rfl⟩) (As := [.int 3]) (rest := []) rfl hl.1 rfl (Nat.le_of_ble_eq_true rfl) dL_act_627 ⟨Nat.le_of_ble_eq_true rfl, Nat.le_of_ble_eq_true rfl⟩ (fun r_627 u_627 H locs hq hP hD hS => ?_)
        obtain ⟨hrv, hJ⟩ := hq
        subst hrv
        refine top_i (y := (nI jr)) rfl ?_
        refine lv_iload hx hb dL_act_630 (lv_at hl 4 rfl) ?_
        have c_632 : ((nI jr) : Int32) = (nI jr) := rfl
        refine lv_icmp_ne (tgt := 649) hx hb dL_act_632 (by decide) (fun q => absurd c_632 q) (fun _ => ?_)
        refine lv_aload_n hx hb dL_act_635 rfl (lv_at hl 9 rfl) ?_
        refine lv_iconst (v := 4) hx hb dL_act_636 (by decide) ?_
        refine cB_i hJ.hd CF hK hN hA hS hP hD (b_count l D cI cZ cW cJ A X xo (S.1, S.2.1, (jc, jr), S.2.2.2) u_627 4 (by decide) hJ) (cwV 1 hts gL_act_X8_count rfl rfl rfl (by decide +kernel) ⟨Nat.le_of_ble_eq_true rfl, Nat.le_of_ble_eq_true rfl⟩) (As := [.int 4]) (rest := []) rfl hl.1 rfl (Nat.le_of_ble_eq_true rfl) dL_act_637 ⟨Nat.le_of_ble_eq_true rfl, Nat.le_of_ble_eq_true rfl⟩ (fun r_637 u_637 H locs hq hP hD hS => ?_)
        obtain ⟨hrv, hJ⟩ := hq
        subst hrv
        refine top_i (y := (nI lg9)) (congrArg nI elg) ?_
        refine lv_iload hx hb dL_act_640 (lv_at hl 0 rfl) ?_
        have c_642 : ((nI lg9) : Int32) = (nI lg9) := rfl
        refine lv_icmp_ne (tgt := 649) hx hb dL_act_642 (by decide) (fun q => absurd c_642 q) (fun _ => ?_)
        refine lv_iconst (v := 1) hx hb dL_act_645 (by decide) ?_
        refine lv_goto (tgt := 650) hx hb dL_act_646 (by decide) ?_
        exact W.zret (v := 1) (ty := .boolean) hx hb hr (rfl) (fun t9 ht9 hW9 => ⟨⟨1, ((S.1, S.2.1, (jc, jr), S.2.2.2), u_637), rfl, ⟨rfl, hJ, (show LW mm (S.1, S.2.1, (jc, jr), S.2.2.2) from hLW).up (by omega)⟩, by rw [ht9]; exact hP, hD⟩, hS.F ht9⟩) hS.2.2 dL_act_650
      · have hpk : putK S jc jr = (refK S, -1) := put_not (not_t hst9)
        refine lv_aload_n hx hb dL_act_550 rfl (lv_at hl 8 rfl) ?_
        refine lv_iload hx hb dL_act_551 (lv_at hl 4 rfl) ?_
        refine lv_iload hx hb dL_act_553 (lv_at hl 3 rfl) ?_
        refine lv_iconst (v := 2) hx hb dL_act_555 (by decide) ?_
        refine cB_i hJ.hd CF hK hN hA hS hP hD (b_cellOf l D cI cZ cW cJ A X xo S u_67 jc jr 2 (by omega) (by omega) (by decide) hJ) (cwV 3 hts gL_act_X8_cellOf rfl rfl rfl (by decide +kernel) ⟨Nat.le_of_ble_eq_true rfl, Nat.le_of_ble_eq_true rfl⟩) (As := [.int (nI jc), .int (nI jr), .int 2]) (rest := []) rfl hl.1 rfl (Nat.le_of_ble_eq_true rfl) dL_act_556 ⟨Nat.le_of_ble_eq_true rfl, Nat.le_of_ble_eq_true rfl⟩ (fun r_556 u_556 H locs hq hP hD hS => ?_)
        obtain ⟨hrv, hJ⟩ := hq
        subst hrv
        refine top_i (y := (-1)) ((cell_no hjc (not_t hst9)).2.1) ?_
        refine lv_istore (lv' := [(9, .int (-1)), (8, .int S.2.2.2.2.2), (7, .int (nI S.2.2.1.2)), (6, .int (nI S.2.2.1.1)), (5, .int (nI jr)), (4, .int (nI jc)), (3, .int sd), (2, .int xw), (1, .int xv), (0, .ref xo)]) hx hb dL_act_559 hl (by decide) rfl (fun ls hl => ?_)
        refine lv_aload_n hx hb dL_act_561 rfl (lv_at hl 9 rfl) ?_
        refine lv_iload hx hb dL_act_562 (lv_at hl 5 rfl) ?_
        refine lv_iload hx hb dL_act_564 (lv_at hl 4 rfl) ?_
        refine cB_i hJ.hd CF hK hN hA hS hP hD (b_put l D cI cZ cW cJ A X xo S u_556 jc jr (by omega) (by omega) hJ) (cwV 2 hts gL_act_X8_put rfl rfl rfl (by decide +kernel) ⟨Nat.le_of_ble_eq_true rfl, Nat.le_of_ble_eq_true rfl⟩) (As := [.int (nI jc), .int (nI jr)]) (rest := []) rfl hl.1 rfl (Nat.le_of_ble_eq_true rfl) dL_act_566 ⟨Nat.le_of_ble_eq_true rfl, Nat.le_of_ble_eq_true rfl⟩ (fun r_566 u_566 H locs hq hP hD hS => ?_)
        obtain ⟨hrv, hJ⟩ := hq
        subst hrv
        have hJ : YJ cI cZ cW xo (refK S) u_566 := by have z := hJ; rw [hpk] at z; exact z
        refine top_i (y := (-1)) (by rw [hpk]) ?_
        refine lv_iload hx hb dL_act_569 (lv_at hl 0 rfl) ?_
        have c_571 : ((-1) : Int32) = (-1) := rfl
        refine lv_icmp_ne (tgt := 649) hx hb dL_act_571 (by decide) (fun q => absurd c_571 q) (fun _ => ?_)
        refine lv_iload hx hb dL_act_574 (lv_at hl 0 rfl) ?_
        have c_576 : ¬ (0 : Int32) ≤ (-1) := by decide
        refine lv_if_ge (tgt := 615) hx hb dL_act_576 (by decide) (fun q => absurd q c_576) (fun _ => ?_)
        refine lv_aload_n hx hb dL_act_579 rfl (lv_at hl 9 rfl) ?_
        refine lv_iconst (v := 2) hx hb dL_act_580 (by decide) ?_
        refine cB_i hJ.hd CF hK hN hA hS hP hD (b_count l D cI cZ cW cJ A X xo (refK S) u_566 2 (by decide) hJ) (cwV 1 hts gL_act_X8_count rfl rfl rfl (by decide +kernel) ⟨Nat.le_of_ble_eq_true rfl, Nat.le_of_ble_eq_true rfl⟩) (As := [.int 2]) (rest := []) rfl hl.1 rfl (Nat.le_of_ble_eq_true rfl) dL_act_581 ⟨Nat.le_of_ble_eq_true rfl, Nat.le_of_ble_eq_true rfl⟩ (fun r_581 u_581 H locs hq hP hD hS => ?_)
        obtain ⟨hrv, hJ⟩ := hq
        subst hrv
        refine top_i (y := (nI S.2.2.1.1)) rfl ?_
        refine lv_iload hx hb dL_act_584 (lv_at hl 3 rfl) ?_
        have c_586 : ((nI S.2.2.1.1) : Int32) = (nI S.2.2.1.1) := rfl
        refine lv_icmp_ne (tgt := 649) hx hb dL_act_586 (by decide) (fun q => absurd c_586 q) (fun _ => ?_)
        refine lv_aload_n hx hb dL_act_589 rfl (lv_at hl 9 rfl) ?_
        refine lv_iconst (v := 3) hx hb dL_act_590 (by decide) ?_
        refine cB_i hJ.hd CF hK hN hA hS hP hD (b_count l D cI cZ cW cJ A X xo (refK S) u_581 3 (by decide) hJ) (cwV 1 hts gL_act_X8_count rfl rfl rfl (by decide +kernel) ⟨Nat.le_of_ble_eq_true rfl, Nat.le_of_ble_eq_true rfl⟩) (As := [.int 3]) (rest := []) rfl hl.1 rfl (Nat.le_of_ble_eq_true rfl) dL_act_591 ⟨Nat.le_of_ble_eq_true rfl, Nat.le_of_ble_eq_true rfl⟩ (fun r_591 u_591 H locs hq hP hD hS => ?_)
        obtain ⟨hrv, hJ⟩ := hq
        subst hrv
        refine top_i (y := (nI S.2.2.1.2)) rfl ?_
        refine lv_iload hx hb dL_act_594 (lv_at hl 2 rfl) ?_
        have c_596 : ((nI S.2.2.1.2) : Int32) = (nI S.2.2.1.2) := rfl
        refine lv_icmp_ne (tgt := 649) hx hb dL_act_596 (by decide) (fun q => absurd c_596 q) (fun _ => ?_)
        refine lv_aload_n hx hb dL_act_599 rfl (lv_at hl 9 rfl) ?_
        refine lv_bipush (v := 7) hx hb dL_act_600 (by decide) ?_
        refine cB_i hJ.hd CF hK hN hA hS hP hD (b_count l D cI cZ cW cJ A X xo (refK S) u_591 7 (by decide) hJ) (cwV 1 hts gL_act_X8_count rfl rfl rfl (by decide +kernel) ⟨Nat.le_of_ble_eq_true rfl, Nat.le_of_ble_eq_true rfl⟩) (As := [.int 7]) (rest := []) rfl hl.1 rfl (Nat.le_of_ble_eq_true rfl) dL_act_602 ⟨Nat.le_of_ble_eq_true rfl, Nat.le_of_ble_eq_true rfl⟩ (fun r_602 u_602 H locs hq hP hD hS => ?_)
        obtain ⟨hrv, hJ⟩ := hq
        subst hrv
        refine top_i (y := (S.2.2.2.2.2 + 1)) rfl ?_
        refine lv_iload hx hb dL_act_605 (lv_at hl 1 rfl) ?_
        refine lv_iconst (v := 1) hx hb dL_act_607 (by decide) ?_
        refine lv_iadd hx hb dL_act_608 ?_
        have c_609 : ((S.2.2.2.2.2 + 1) : Int32) = (S.2.2.2.2.2 + 1) := rfl
        refine lv_icmp_ne (tgt := 649) hx hb dL_act_609 (by decide) (fun q => absurd c_609 q) (fun _ => ?_)
        refine lv_goto (tgt := 645) hx hb dL_act_612 (by decide) ?_
        refine lv_iconst (v := 1) hx hb dL_act_645 (by decide) ?_
        refine lv_goto (tgt := 650) hx hb dL_act_646 (by decide) ?_
        exact W.zret (v := 1) (ty := .boolean) hx hb hr (rfl) (fun t9 ht9 hW9 => ⟨⟨1, (refK S, u_602), rfl, ⟨rfl, hJ, (show LW mm (refK S) from hLW).up (by omega)⟩, by rw [ht9]; exact hP, hD⟩, hS.F ht9⟩) hS.2.2 dL_act_650
    have join_651 : ∀  (H : Heap) (locs : List Loc) (hP : va_P D vwCl ((X ++ u_67)) H) (hD : va_D A ((X ++ u_67))) (hS : va_S A s.heap H locs) (ls : Array Slot) (hl : lv_has ls 16 [(8, .int S.2.2.2.2.2), (7, .int (nI S.2.2.1.2)), (6, .int (nI S.2.2.1.1)), (5, .int (nI jr)), (4, .int (nI jc)), (3, .int sd), (2, .int xw), (1, .int xv), (0, .ref xo)]), W p l e ({ frames := 7, cells := 0, slots := 0, locals := 166 } : Room) s m (([.ref xo, .int xv, .int xw] : List Value).toArray) below meth c H locs 0 0 (MQ below (va_Qi (fun (r : Int32) (u : KS × va_W) => r = 1 ∧ YJ cI cZ cW xo u.1 u.2 ∧ LW (mm + 1) u.1) (fun (u : KS × va_W) t => wq D A ((X ++ u.2)) t) A) (([.ref xo, .int xv, .int xw] : List Value).toArray) s 0 0 A) (F0 m 651 ls []) := by
      intro  H locs hP hD hS ls hl
      refine lv_iload_n hx hb dL_act_651 rfl (lv_at hl 6 rfl) ?_
      refine lv_iconst (v := 3) hx hb dL_act_652 (by decide) ?_
      refine lv_ishr hx hb dL_act_653 ?_
      refine lv_iconst (v := 4) hx hb dL_act_654 (by decide) ?_
      refine cS_i CF hK hN hA hS (cut_id hP hD) (l_low l D cI cZ cW cJ A (X ++ u_67) (xw >>> (3 &&& 31)) 4 (by decide)) (va_cwS 2 hts gL_act_L_low rfl rfl rfl (by decide +kernel) ⟨Nat.le_of_ble_eq_true rfl, Nat.le_of_ble_eq_true rfl⟩) (As := [.int (xw >>> (3 &&& 31)), .int 4]) (rest := []) rfl hl.1 rfl (Nat.le_of_ble_eq_true rfl) dL_act_655 ⟨Nat.le_of_ble_eq_true rfl, Nat.le_of_ble_eq_true rfl⟩ (fun r_655 u_655 H locs hq hP hD hS => ?_)
      obtain ⟨hk_655, hrv⟩ := hq
      subst hrv
      have hP : va_P D vwCl ((X ++ u_67)) H := hP
      have hD : va_D A ((X ++ u_67)) := hD
      obtain ⟨m9, hm9, em, (⟨q9, hno⟩ | ⟨q9, tc, tr, tt, tp, k9, wb, e0, e1, e2, e3, e4, hs9, htc, htr, -⟩)⟩ := lps hW9 hd hw1 hw2 (show u_655 ≤ 3 by omega) hW9.2.2.2
      · have hlk : leapK S sd u_655 = (refK S, -1) := leapK_no (by rw [em]; exact nI_ltt (by omega) (by omega) q9)
        refine lv_istore (lv' := [(9, .int (nI u_655)), (8, .int S.2.2.2.2.2), (7, .int (nI S.2.2.1.2)), (6, .int (nI S.2.2.1.1)), (5, .int (nI jr)), (4, .int (nI jc)), (3, .int sd), (2, .int xw), (1, .int xv), (0, .ref xo)]) hx hb dL_act_658 hl (by decide) rfl (fun ls hl => ?_)
        refine lv_aload_n hx hb dL_act_660 rfl (lv_at hl 9 rfl) ?_
        refine lv_iload hx hb dL_act_661 (lv_at hl 3 rfl) ?_
        refine lv_iload hx hb dL_act_663 (lv_at hl 2 rfl) ?_
        refine lv_iload_n hx hb dL_act_665 rfl (lv_at hl 6 rfl) ?_
        refine lv_iload hx hb dL_act_666 (lv_at hl 0 rfl) ?_
        refine lv_iconst (v := 0) hx hb dL_act_668 (by decide) ?_
        refine cB_i hJ.hd CF hK hN hA hS hP hD (b_ifLeapt l D cI cZ cW cJ A X xo S u_67 S.2.2.1.1 S.2.2.1.2 sd u_655 0 (by omega) (by omega) hd (by omega) (by decide) hJ) (cwV 5 hts gL_act_X8_ifLeapt rfl rfl rfl (by decide +kernel) ⟨Nat.le_of_ble_eq_true rfl, Nat.le_of_ble_eq_true rfl⟩) (As := [.int (nI S.2.2.1.1), .int (nI S.2.2.1.2), .int sd, .int (nI u_655), .int 0]) (rest := []) rfl hl.1 rfl (Nat.le_of_ble_eq_true rfl) dL_act_669 ⟨Nat.le_of_ble_eq_true rfl, Nat.le_of_ble_eq_true rfl⟩ (fun r_669 u_669 H locs hq hP hD hS => ?_)
        obtain ⟨hrv, hJ⟩ := hq
        subst hrv
        refine top_i (y := (-1)) (hno 0) ?_
        refine lv_istore (lv' := [(10, .int (-1)), (9, .int (nI u_655)), (8, .int S.2.2.2.2.2), (7, .int (nI S.2.2.1.2)), (6, .int (nI S.2.2.1.1)), (5, .int (nI jr)), (4, .int (nI jc)), (3, .int sd), (2, .int xw), (1, .int xv), (0, .ref xo)]) hx hb dL_act_672 hl (by decide) rfl (fun ls hl => ?_)
        refine lv_aload_n hx hb dL_act_674 rfl (lv_at hl 10 rfl) ?_
        refine lv_iload hx hb dL_act_675 (lv_at hl 4 rfl) ?_
        refine lv_iload hx hb dL_act_677 (lv_at hl 3 rfl) ?_
        refine lv_iload_n hx hb dL_act_679 rfl (lv_at hl 7 rfl) ?_
        refine lv_iload hx hb dL_act_680 (lv_at hl 1 rfl) ?_
        refine lv_iconst (v := 1) hx hb dL_act_682 (by decide) ?_
        refine cB_i hJ.hd CF hK hN hA hS hP hD (b_ifLeapt l D cI cZ cW cJ A X xo S u_669 S.2.2.1.1 S.2.2.1.2 sd u_655 1 (by omega) (by omega) hd (by omega) (by decide) hJ) (cwV 5 hts gL_act_X8_ifLeapt rfl rfl rfl (by decide +kernel) ⟨Nat.le_of_ble_eq_true rfl, Nat.le_of_ble_eq_true rfl⟩) (As := [.int (nI S.2.2.1.1), .int (nI S.2.2.1.2), .int sd, .int (nI u_655), .int 1]) (rest := []) rfl hl.1 rfl (Nat.le_of_ble_eq_true rfl) dL_act_683 ⟨Nat.le_of_ble_eq_true rfl, Nat.le_of_ble_eq_true rfl⟩ (fun r_683 u_683 H locs hq hP hD hS => ?_)
        obtain ⟨hrv, hJ⟩ := hq
        subst hrv
        refine top_i (y := (-1)) (hno 1) ?_
        refine lv_istore (lv' := [(11, .int (-1)), (10, .int (-1)), (9, .int (nI u_655)), (8, .int S.2.2.2.2.2), (7, .int (nI S.2.2.1.2)), (6, .int (nI S.2.2.1.1)), (5, .int (nI jr)), (4, .int (nI jc)), (3, .int sd), (2, .int xw), (1, .int xv), (0, .ref xo)]) hx hb dL_act_686 hl (by decide) rfl (fun ls hl => ?_)
        refine lv_aload_n hx hb dL_act_688 rfl (lv_at hl 11 rfl) ?_
        refine lv_iload hx hb dL_act_689 (lv_at hl 5 rfl) ?_
        refine lv_iload hx hb dL_act_691 (lv_at hl 4 rfl) ?_
        refine lv_iload_n hx hb dL_act_693 rfl (lv_at hl 8 rfl) ?_
        refine lv_iload hx hb dL_act_694 (lv_at hl 2 rfl) ?_
        refine lv_iconst (v := 4) hx hb dL_act_696 (by decide) ?_
        refine cB_i hJ.hd CF hK hN hA hS hP hD (b_ifLeapt l D cI cZ cW cJ A X xo S u_683 S.2.2.1.1 S.2.2.1.2 sd u_655 4 (by omega) (by omega) hd (by omega) (by decide) hJ) (cwV 5 hts gL_act_X8_ifLeapt rfl rfl rfl (by decide +kernel) ⟨Nat.le_of_ble_eq_true rfl, Nat.le_of_ble_eq_true rfl⟩) (As := [.int (nI S.2.2.1.1), .int (nI S.2.2.1.2), .int sd, .int (nI u_655), .int 4]) (rest := []) rfl hl.1 rfl (Nat.le_of_ble_eq_true rfl) dL_act_697 ⟨Nat.le_of_ble_eq_true rfl, Nat.le_of_ble_eq_true rfl⟩ (fun r_697 u_697 H locs hq hP hD hS => ?_)
        obtain ⟨hrv, hJ⟩ := hq
        subst hrv
        refine top_i (y := (-1)) (hno 4) ?_
        refine lv_istore (lv' := [(12, .int (-1)), (11, .int (-1)), (10, .int (-1)), (9, .int (nI u_655)), (8, .int S.2.2.2.2.2), (7, .int (nI S.2.2.1.2)), (6, .int (nI S.2.2.1.1)), (5, .int (nI jr)), (4, .int (nI jc)), (3, .int sd), (2, .int xw), (1, .int xv), (0, .ref xo)]) hx hb dL_act_700 hl (by decide) rfl (fun ls hl => ?_)
        refine lv_aload_n hx hb dL_act_702 rfl (lv_at hl 12 rfl) ?_
        refine lv_iconst (v := 5) hx hb dL_act_703 (by decide) ?_
        refine cB_i hJ.hd CF hK hN hA hS hP hD (b_count l D cI cZ cW cJ A X xo S u_697 5 (by decide) hJ) (cwV 1 hts gL_act_X8_count rfl rfl rfl (by decide +kernel) ⟨Nat.le_of_ble_eq_true rfl, Nat.le_of_ble_eq_true rfl⟩) (As := [.int 5]) (rest := []) rfl hl.1 rfl (Nat.le_of_ble_eq_true rfl) dL_act_704 ⟨Nat.le_of_ble_eq_true rfl, Nat.le_of_ble_eq_true rfl⟩ (fun r_704 u_704 H locs hq hP hD hS => ?_)
        obtain ⟨hrv, hJ⟩ := hq
        subst hrv
        refine top_i (y := S.2.2.2.1) rfl ?_
        refine lv_istore (lv' := [(13, .int S.2.2.2.1), (12, .int (-1)), (11, .int (-1)), (10, .int (-1)), (9, .int (nI u_655)), (8, .int S.2.2.2.2.2), (7, .int (nI S.2.2.1.2)), (6, .int (nI S.2.2.1.1)), (5, .int (nI jr)), (4, .int (nI jc)), (3, .int sd), (2, .int xw), (1, .int xv), (0, .ref xo)]) hx hb dL_act_707 hl (by decide) rfl (fun ls hl => ?_)
        refine lv_aload_n hx hb dL_act_709 rfl (lv_at hl 13 rfl) ?_
        refine lv_bipush (v := 6) hx hb dL_act_710 (by decide) ?_
        refine cB_i hJ.hd CF hK hN hA hS hP hD (b_count l D cI cZ cW cJ A X xo S u_704 6 (by decide) hJ) (cwV 1 hts gL_act_X8_count rfl rfl rfl (by decide +kernel) ⟨Nat.le_of_ble_eq_true rfl, Nat.le_of_ble_eq_true rfl⟩) (As := [.int 6]) (rest := []) rfl hl.1 rfl (Nat.le_of_ble_eq_true rfl) dL_act_712 ⟨Nat.le_of_ble_eq_true rfl, Nat.le_of_ble_eq_true rfl⟩ (fun r_712 u_712 H locs hq hP hD hS => ?_)
        obtain ⟨hrv, hJ⟩ := hq
        subst hrv
        refine top_i (y := S.2.2.2.2.1) rfl ?_
        refine lv_istore (lv' := [(14, .int S.2.2.2.2.1), (13, .int S.2.2.2.1), (12, .int (-1)), (11, .int (-1)), (10, .int (-1)), (9, .int (nI u_655)), (8, .int S.2.2.2.2.2), (7, .int (nI S.2.2.1.2)), (6, .int (nI S.2.2.1.1)), (5, .int (nI jr)), (4, .int (nI jc)), (3, .int sd), (2, .int xw), (1, .int xv), (0, .ref xo)]) hx hb dL_act_715 hl (by decide) rfl (fun ls hl => ?_)
        refine lv_aload_n hx hb dL_act_717 rfl (lv_at hl 14 rfl) ?_
        refine lv_iload_n hx hb dL_act_718 rfl (lv_at hl 11 rfl) ?_
        refine lv_iload hx hb dL_act_719 (lv_at hl 5 rfl) ?_
        refine cB_i hJ.hd CF hK hN hA hS hP hD (b_leap l D cI cZ cW cJ A X xo S u_712 sd u_655 hd (by omega) hJ) (cwV 2 hts gL_act_X8_leap rfl rfl rfl (by decide +kernel) ⟨Nat.le_of_ble_eq_true rfl, Nat.le_of_ble_eq_true rfl⟩) (As := [.int sd, .int (nI u_655)]) (rest := []) rfl hl.1 rfl (Nat.le_of_ble_eq_true rfl) dL_act_721 ⟨Nat.le_of_ble_eq_true rfl, Nat.le_of_ble_eq_true rfl⟩ (fun r_721 u_721 H locs hq hP hD hS => ?_)
        obtain ⟨hrv, hJ⟩ := hq
        subst hrv
        have hJ : YJ cI cZ cW xo (refK S) u_721 := by have z := hJ; rw [hlk] at z; exact z
        refine top_i (y := (-1)) (by rw [hlk]) ?_
        refine lv_istore (lv' := [(15, .int (-1)), (14, .int S.2.2.2.2.1), (13, .int S.2.2.2.1), (12, .int (-1)), (11, .int (-1)), (10, .int (-1)), (9, .int (nI u_655)), (8, .int S.2.2.2.2.2), (7, .int (nI S.2.2.1.2)), (6, .int (nI S.2.2.1.1)), (5, .int (nI jr)), (4, .int (nI jc)), (3, .int sd), (2, .int xw), (1, .int xv), (0, .ref xo)]) hx hb dL_act_724 hl (by decide) rfl (fun ls hl => ?_)
        refine lv_iload hx hb dL_act_726 (lv_at hl 5 rfl) ?_
        have c_728 : ¬ (0 : Int32) ≤ (-1) := by decide
        refine lv_if_ge (tgt := 766) hx hb dL_act_728 (by decide) (fun q => absurd q c_728) (fun _ => ?_)
        refine lv_iload hx hb dL_act_731 (lv_at hl 0 rfl) ?_
        refine lv_iconst (v := (-1)) hx hb dL_act_733 (by decide) ?_
        have c_734 : ((-1) : Int32) = (-1) := rfl
        refine lv_icmp_ne (tgt := 764) hx hb dL_act_734 (by decide) (fun q => absurd c_734 q) (fun _ => ?_)
        refine lv_aload_n hx hb dL_act_737 rfl (lv_at hl 15 rfl) ?_
        refine lv_bipush (v := 7) hx hb dL_act_738 (by decide) ?_
        refine cB_i hJ.hd CF hK hN hA hS hP hD (b_count l D cI cZ cW cJ A X xo (refK S) u_721 7 (by decide) hJ) (cwV 1 hts gL_act_X8_count rfl rfl rfl (by decide +kernel) ⟨Nat.le_of_ble_eq_true rfl, Nat.le_of_ble_eq_true rfl⟩) (As := [.int 7]) (rest := []) rfl hl.1 rfl (Nat.le_of_ble_eq_true rfl) dL_act_740 ⟨Nat.le_of_ble_eq_true rfl, Nat.le_of_ble_eq_true rfl⟩ (fun r_740 u_740 H locs hq hP hD hS => ?_)
        obtain ⟨hrv, hJ⟩ := hq
        subst hrv
        refine top_i (y := (S.2.2.2.2.2 + 1)) rfl ?_
        refine lv_iload hx hb dL_act_743 (lv_at hl 7 rfl) ?_
        refine lv_iconst (v := 1) hx hb dL_act_745 (by decide) ?_
        refine lv_iadd hx hb dL_act_746 ?_
        have c_747 : ((S.2.2.2.2.2 + 1) : Int32) = (S.2.2.2.2.2 + 1) := rfl
        refine lv_icmp_ne (tgt := 764) hx hb dL_act_747 (by decide) (fun q => absurd c_747 q) (fun _ => ?_)
        refine lv_aload_n hx hb dL_act_750 rfl (lv_at hl 15 rfl) ?_
        refine lv_iconst (v := 5) hx hb dL_act_751 (by decide) ?_
        refine cB_i hJ.hd CF hK hN hA hS hP hD (b_count l D cI cZ cW cJ A X xo (refK S) u_740 5 (by decide) hJ) (cwV 1 hts gL_act_X8_count rfl rfl rfl (by decide +kernel) ⟨Nat.le_of_ble_eq_true rfl, Nat.le_of_ble_eq_true rfl⟩) (As := [.int 5]) (rest := []) rfl hl.1 rfl (Nat.le_of_ble_eq_true rfl) dL_act_752 ⟨Nat.le_of_ble_eq_true rfl, Nat.le_of_ble_eq_true rfl⟩ (fun r_752 u_752 H locs hq hP hD hS => ?_)
        obtain ⟨hrv, hJ⟩ := hq
        subst hrv
        refine top_i (y := S.2.2.2.1) rfl ?_
        refine lv_iload hx hb dL_act_755 (lv_at hl 2 rfl) ?_
        have c_757 : (S.2.2.2.1 : Int32) = S.2.2.2.1 := rfl
        refine lv_icmp_ne (tgt := 764) hx hb dL_act_757 (by decide) (fun q => absurd c_757 q) (fun _ => ?_)
        refine lv_iconst (v := 1) hx hb dL_act_760 (by decide) ?_
        refine lv_goto (tgt := 765) hx hb dL_act_761 (by decide) ?_
        exact W.zret (v := 1) (ty := .boolean) hx hb hr (rfl) (fun t9 ht9 hW9 => ⟨⟨1, (refK S, u_752), rfl, ⟨rfl, hJ, (show LW mm (refK S) from hLW).up (by omega)⟩, by rw [ht9]; exact hP, hD⟩, hS.F ht9⟩) hS.2.2 dL_act_765
      · have hlk := leapK_ok (S := S) (d := sd) (u := u_655) (by rw [em]; exact nI_lt0 (by omega) (by omega) q9) htc htr e0 e1 e4
        refine lv_istore (lv' := [(9, .int (nI u_655)), (8, .int S.2.2.2.2.2), (7, .int (nI S.2.2.1.2)), (6, .int (nI S.2.2.1.1)), (5, .int (nI jr)), (4, .int (nI jc)), (3, .int sd), (2, .int xw), (1, .int xv), (0, .ref xo)]) hx hb dL_act_658 hl (by decide) rfl (fun ls hl => ?_)
        refine lv_aload_n hx hb dL_act_660 rfl (lv_at hl 9 rfl) ?_
        refine lv_iload hx hb dL_act_661 (lv_at hl 3 rfl) ?_
        refine lv_iload hx hb dL_act_663 (lv_at hl 2 rfl) ?_
        refine lv_iload_n hx hb dL_act_665 rfl (lv_at hl 6 rfl) ?_
        refine lv_iload hx hb dL_act_666 (lv_at hl 0 rfl) ?_
        refine lv_iconst (v := 0) hx hb dL_act_668 (by decide) ?_
        refine cB_i hJ.hd CF hK hN hA hS hP hD (b_ifLeapt l D cI cZ cW cJ A X xo S u_67 S.2.2.1.1 S.2.2.1.2 sd u_655 0 (by omega) (by omega) hd (by omega) (by decide) hJ) (cwV 5 hts gL_act_X8_ifLeapt rfl rfl rfl (by decide +kernel) ⟨Nat.le_of_ble_eq_true rfl, Nat.le_of_ble_eq_true rfl⟩) (As := [.int (nI S.2.2.1.1), .int (nI S.2.2.1.2), .int sd, .int (nI u_655), .int 0]) (rest := []) rfl hl.1 rfl (Nat.le_of_ble_eq_true rfl) dL_act_669 ⟨Nat.le_of_ble_eq_true rfl, Nat.le_of_ble_eq_true rfl⟩ (fun r_669 u_669 H locs hq hP hD hS => ?_)
        obtain ⟨hrv, hJ⟩ := hq
        subst hrv
        refine top_i (y := (nI tc)) e0 ?_
        refine lv_istore (lv' := [(10, .int (nI tc)), (9, .int (nI u_655)), (8, .int S.2.2.2.2.2), (7, .int (nI S.2.2.1.2)), (6, .int (nI S.2.2.1.1)), (5, .int (nI jr)), (4, .int (nI jc)), (3, .int sd), (2, .int xw), (1, .int xv), (0, .ref xo)]) hx hb dL_act_672 hl (by decide) rfl (fun ls hl => ?_)
        refine lv_aload_n hx hb dL_act_674 rfl (lv_at hl 10 rfl) ?_
        refine lv_iload hx hb dL_act_675 (lv_at hl 4 rfl) ?_
        refine lv_iload hx hb dL_act_677 (lv_at hl 3 rfl) ?_
        refine lv_iload_n hx hb dL_act_679 rfl (lv_at hl 7 rfl) ?_
        refine lv_iload hx hb dL_act_680 (lv_at hl 1 rfl) ?_
        refine lv_iconst (v := 1) hx hb dL_act_682 (by decide) ?_
        refine cB_i hJ.hd CF hK hN hA hS hP hD (b_ifLeapt l D cI cZ cW cJ A X xo S u_669 S.2.2.1.1 S.2.2.1.2 sd u_655 1 (by omega) (by omega) hd (by omega) (by decide) hJ) (cwV 5 hts gL_act_X8_ifLeapt rfl rfl rfl (by decide +kernel) ⟨Nat.le_of_ble_eq_true rfl, Nat.le_of_ble_eq_true rfl⟩) (As := [.int (nI S.2.2.1.1), .int (nI S.2.2.1.2), .int sd, .int (nI u_655), .int 1]) (rest := []) rfl hl.1 rfl (Nat.le_of_ble_eq_true rfl) dL_act_683 ⟨Nat.le_of_ble_eq_true rfl, Nat.le_of_ble_eq_true rfl⟩ (fun r_683 u_683 H locs hq hP hD hS => ?_)
        obtain ⟨hrv, hJ⟩ := hq
        subst hrv
        refine top_i (y := (nI tr)) e1 ?_
        refine lv_istore (lv' := [(11, .int (nI tr)), (10, .int (nI tc)), (9, .int (nI u_655)), (8, .int S.2.2.2.2.2), (7, .int (nI S.2.2.1.2)), (6, .int (nI S.2.2.1.1)), (5, .int (nI jr)), (4, .int (nI jc)), (3, .int sd), (2, .int xw), (1, .int xv), (0, .ref xo)]) hx hb dL_act_686 hl (by decide) rfl (fun ls hl => ?_)
        refine lv_aload_n hx hb dL_act_688 rfl (lv_at hl 11 rfl) ?_
        refine lv_iload hx hb dL_act_689 (lv_at hl 5 rfl) ?_
        refine lv_iload hx hb dL_act_691 (lv_at hl 4 rfl) ?_
        refine lv_iload_n hx hb dL_act_693 rfl (lv_at hl 8 rfl) ?_
        refine lv_iload hx hb dL_act_694 (lv_at hl 2 rfl) ?_
        refine lv_iconst (v := 4) hx hb dL_act_696 (by decide) ?_
        refine cB_i hJ.hd CF hK hN hA hS hP hD (b_ifLeapt l D cI cZ cW cJ A X xo S u_683 S.2.2.1.1 S.2.2.1.2 sd u_655 4 (by omega) (by omega) hd (by omega) (by decide) hJ) (cwV 5 hts gL_act_X8_ifLeapt rfl rfl rfl (by decide +kernel) ⟨Nat.le_of_ble_eq_true rfl, Nat.le_of_ble_eq_true rfl⟩) (As := [.int (nI S.2.2.1.1), .int (nI S.2.2.1.2), .int sd, .int (nI u_655), .int 4]) (rest := []) rfl hl.1 rfl (Nat.le_of_ble_eq_true rfl) dL_act_697 ⟨Nat.le_of_ble_eq_true rfl, Nat.le_of_ble_eq_true rfl⟩ (fun r_697 u_697 H locs hq hP hD hS => ?_)
        obtain ⟨hrv, hJ⟩ := hq
        subst hrv
        refine top_i (y := (bI wb)) e4 ?_
        refine lv_istore (lv' := [(12, .int (bI wb)), (11, .int (nI tr)), (10, .int (nI tc)), (9, .int (nI u_655)), (8, .int S.2.2.2.2.2), (7, .int (nI S.2.2.1.2)), (6, .int (nI S.2.2.1.1)), (5, .int (nI jr)), (4, .int (nI jc)), (3, .int sd), (2, .int xw), (1, .int xv), (0, .ref xo)]) hx hb dL_act_700 hl (by decide) rfl (fun ls hl => ?_)
        refine lv_aload_n hx hb dL_act_702 rfl (lv_at hl 12 rfl) ?_
        refine lv_iconst (v := 5) hx hb dL_act_703 (by decide) ?_
        refine cB_i hJ.hd CF hK hN hA hS hP hD (b_count l D cI cZ cW cJ A X xo S u_697 5 (by decide) hJ) (cwV 1 hts gL_act_X8_count rfl rfl rfl (by decide +kernel) ⟨Nat.le_of_ble_eq_true rfl, Nat.le_of_ble_eq_true rfl⟩) (As := [.int 5]) (rest := []) rfl hl.1 rfl (Nat.le_of_ble_eq_true rfl) dL_act_704 ⟨Nat.le_of_ble_eq_true rfl, Nat.le_of_ble_eq_true rfl⟩ (fun r_704 u_704 H locs hq hP hD hS => ?_)
        obtain ⟨hrv, hJ⟩ := hq
        subst hrv
        refine top_i (y := S.2.2.2.1) rfl ?_
        refine lv_istore (lv' := [(13, .int S.2.2.2.1), (12, .int (bI wb)), (11, .int (nI tr)), (10, .int (nI tc)), (9, .int (nI u_655)), (8, .int S.2.2.2.2.2), (7, .int (nI S.2.2.1.2)), (6, .int (nI S.2.2.1.1)), (5, .int (nI jr)), (4, .int (nI jc)), (3, .int sd), (2, .int xw), (1, .int xv), (0, .ref xo)]) hx hb dL_act_707 hl (by decide) rfl (fun ls hl => ?_)
        refine lv_aload_n hx hb dL_act_709 rfl (lv_at hl 13 rfl) ?_
        refine lv_bipush (v := 6) hx hb dL_act_710 (by decide) ?_
        refine cB_i hJ.hd CF hK hN hA hS hP hD (b_count l D cI cZ cW cJ A X xo S u_704 6 (by decide) hJ) (cwV 1 hts gL_act_X8_count rfl rfl rfl (by decide +kernel) ⟨Nat.le_of_ble_eq_true rfl, Nat.le_of_ble_eq_true rfl⟩) (As := [.int 6]) (rest := []) rfl hl.1 rfl (Nat.le_of_ble_eq_true rfl) dL_act_712 ⟨Nat.le_of_ble_eq_true rfl, Nat.le_of_ble_eq_true rfl⟩ (fun r_712 u_712 H locs hq hP hD hS => ?_)
        obtain ⟨hrv, hJ⟩ := hq
        subst hrv
        refine top_i (y := S.2.2.2.2.1) rfl ?_
        refine lv_istore (lv' := [(14, .int S.2.2.2.2.1), (13, .int S.2.2.2.1), (12, .int (bI wb)), (11, .int (nI tr)), (10, .int (nI tc)), (9, .int (nI u_655)), (8, .int S.2.2.2.2.2), (7, .int (nI S.2.2.1.2)), (6, .int (nI S.2.2.1.1)), (5, .int (nI jr)), (4, .int (nI jc)), (3, .int sd), (2, .int xw), (1, .int xv), (0, .ref xo)]) hx hb dL_act_715 hl (by decide) rfl (fun ls hl => ?_)
        refine lv_aload_n hx hb dL_act_717 rfl (lv_at hl 14 rfl) ?_
        refine lv_iload_n hx hb dL_act_718 rfl (lv_at hl 11 rfl) ?_
        refine lv_iload hx hb dL_act_719 (lv_at hl 5 rfl) ?_
        refine cB_i hJ.hd CF hK hN hA hS hP hD (b_leap l D cI cZ cW cJ A X xo S u_712 sd u_655 hd (by omega) hJ) (cwV 2 hts gL_act_X8_leap rfl rfl rfl (by decide +kernel) ⟨Nat.le_of_ble_eq_true rfl, Nat.le_of_ble_eq_true rfl⟩) (As := [.int sd, .int (nI u_655)]) (rest := []) rfl hl.1 rfl (Nat.le_of_ble_eq_true rfl) dL_act_721 ⟨Nat.le_of_ble_eq_true rfl, Nat.le_of_ble_eq_true rfl⟩ (fun r_721 u_721 H locs hq hP hD hS => ?_)
        obtain ⟨hrv, hJ⟩ := hq
        subst hrv
        have hJ : YJ cI cZ cW xo (S.1, S.2.1, (tc, tr), S.2.2.2.1 + 1, S.2.2.2.2.1 + (bI wb), S.2.2.2.2.2) u_721 := by have z := hJ; rw [hlk] at z; exact z
        refine top_i (y := (nI ((100 * tr) + tc))) (by rw [hlk]) ?_
        refine lv_istore (lv' := [(15, .int (nI ((100 * tr) + tc))), (14, .int S.2.2.2.2.1), (13, .int S.2.2.2.1), (12, .int (bI wb)), (11, .int (nI tr)), (10, .int (nI tc)), (9, .int (nI u_655)), (8, .int S.2.2.2.2.2), (7, .int (nI S.2.2.1.2)), (6, .int (nI S.2.2.1.1)), (5, .int (nI jr)), (4, .int (nI jc)), (3, .int sd), (2, .int xw), (1, .int xv), (0, .ref xo)]) hx hb dL_act_724 hl (by decide) rfl (fun ls hl => ?_)
        refine lv_iload hx hb dL_act_726 (lv_at hl 5 rfl) ?_
        have c_728 : (0 : Int32) ≤ (nI tc) := Int32.not_lt.mp (nI_pos (by omega))
        refine lv_if_ge (tgt := 766) hx hb dL_act_728 (by decide) (fun _ => ?_) (fun q => absurd c_728 q)
        refine lv_iload hx hb dL_act_766 (lv_at hl 0 rfl) ?_
        refine lv_bipush (v := 100) hx hb dL_act_768 (by decide) ?_
        refine lv_iload hx hb dL_act_770 (lv_at hl 4 rfl) ?_
        refine lv_imul hx hb dL_act_772 ?_
        refine top_i (y := (nI (100 * tr))) (pk_mul 100 tr) ?_
        refine lv_iload hx hb dL_act_773 (lv_at hl 5 rfl) ?_
        refine lv_iadd hx hb dL_act_775 ?_
        refine top_i (y := (nI ((100 * tr) + tc))) (nI_add (100 * tr) tc) ?_
        have c_776 : ((nI ((100 * tr) + tc)) : Int32) = (nI ((100 * tr) + tc)) := rfl
        refine lv_icmp_ne (tgt := 829) hx hb dL_act_776 (by decide) (fun q => absurd c_776 q) (fun _ => ?_)
        refine lv_aload_n hx hb dL_act_779 rfl (lv_at hl 15 rfl) ?_
        refine lv_iconst (v := 2) hx hb dL_act_780 (by decide) ?_
        refine cB_i hJ.hd CF hK hN hA hS hP hD (b_count l D cI cZ cW cJ A X xo (S.1, S.2.1, (tc, tr), S.2.2.2.1 + 1, S.2.2.2.2.1 + (bI wb), S.2.2.2.2.2) u_721 2 (by decide) hJ) (cwV 1 hts gL_act_X8_count rfl rfl rfl (by decide +kernel) ⟨Nat.le_of_ble_eq_true rfl, Nat.le_of_ble_eq_true rfl⟩) (As := [.int 2]) (rest := []) rfl hl.1 rfl (Nat.le_of_ble_eq_true rfl) dL_act_781 ⟨Nat.le_of_ble_eq_true rfl, Nat.le_of_ble_eq_true rfl⟩ (fun r_781 u_781 H locs hq hP hD hS => ?_)
        obtain ⟨hrv, hJ⟩ := hq
        subst hrv
        refine top_i (y := (nI tc)) rfl ?_
        refine lv_iload hx hb dL_act_784 (lv_at hl 5 rfl) ?_
        have c_786 : ((nI tc) : Int32) = (nI tc) := rfl
        refine lv_icmp_ne (tgt := 829) hx hb dL_act_786 (by decide) (fun q => absurd c_786 q) (fun _ => ?_)
        refine lv_aload_n hx hb dL_act_789 rfl (lv_at hl 15 rfl) ?_
        refine lv_iconst (v := 3) hx hb dL_act_790 (by decide) ?_
        refine cB_i hJ.hd CF hK hN hA hS hP hD (b_count l D cI cZ cW cJ A X xo (S.1, S.2.1, (tc, tr), S.2.2.2.1 + 1, S.2.2.2.2.1 + (bI wb), S.2.2.2.2.2) u_781 3 (by decide) hJ) (cwV 1 hts gL_act_X8_count rfl rfl rfl (by decide +kernel) ⟨Nat.le_of_ble_eq_true rfl, Nat.le_of_ble_eq_true rfl⟩) (As := [.int 3]) (rest := []) rfl hl.1 rfl (Nat.le_of_ble_eq_true rfl) dL_act_791 ⟨Nat.le_of_ble_eq_true rfl, Nat.le_of_ble_eq_true rfl⟩ (fun r_791 u_791 H locs hq hP hD hS => ?_)
        obtain ⟨hrv, hJ⟩ := hq
        subst hrv
        refine top_i (y := (nI tr)) rfl ?_
        refine lv_iload hx hb dL_act_794 (lv_at hl 4 rfl) ?_
        have c_796 : ((nI tr) : Int32) = (nI tr) := rfl
        refine lv_icmp_ne (tgt := 829) hx hb dL_act_796 (by decide) (fun q => absurd c_796 q) (fun _ => ?_)
        refine lv_aload_n hx hb dL_act_799 rfl (lv_at hl 15 rfl) ?_
        refine lv_iconst (v := 5) hx hb dL_act_800 (by decide) ?_
        refine cB_i hJ.hd CF hK hN hA hS hP hD (b_count l D cI cZ cW cJ A X xo (S.1, S.2.1, (tc, tr), S.2.2.2.1 + 1, S.2.2.2.2.1 + (bI wb), S.2.2.2.2.2) u_791 5 (by decide) hJ) (cwV 1 hts gL_act_X8_count rfl rfl rfl (by decide +kernel) ⟨Nat.le_of_ble_eq_true rfl, Nat.le_of_ble_eq_true rfl⟩) (As := [.int 5]) (rest := []) rfl hl.1 rfl (Nat.le_of_ble_eq_true rfl) dL_act_801 ⟨Nat.le_of_ble_eq_true rfl, Nat.le_of_ble_eq_true rfl⟩ (fun r_801 u_801 H locs hq hP hD hS => ?_)
        obtain ⟨hrv, hJ⟩ := hq
        subst hrv
        refine top_i (y := (S.2.2.2.1 + 1)) rfl ?_
        refine lv_iload hx hb dL_act_804 (lv_at hl 2 rfl) ?_
        refine lv_iconst (v := 1) hx hb dL_act_806 (by decide) ?_
        refine lv_iadd hx hb dL_act_807 ?_
        have c_808 : ((S.2.2.2.1 + 1) : Int32) = (S.2.2.2.1 + 1) := rfl
        refine lv_icmp_ne (tgt := 829) hx hb dL_act_808 (by decide) (fun q => absurd c_808 q) (fun _ => ?_)
        refine lv_aload_n hx hb dL_act_811 rfl (lv_at hl 15 rfl) ?_
        refine lv_bipush (v := 6) hx hb dL_act_812 (by decide) ?_
        refine cB_i hJ.hd CF hK hN hA hS hP hD (b_count l D cI cZ cW cJ A X xo (S.1, S.2.1, (tc, tr), S.2.2.2.1 + 1, S.2.2.2.2.1 + (bI wb), S.2.2.2.2.2) u_801 6 (by decide) hJ) (cwV 1 hts gL_act_X8_count rfl rfl rfl (by decide +kernel) ⟨Nat.le_of_ble_eq_true rfl, Nat.le_of_ble_eq_true rfl⟩) (As := [.int 6]) (rest := []) rfl hl.1 rfl (Nat.le_of_ble_eq_true rfl) dL_act_814 ⟨Nat.le_of_ble_eq_true rfl, Nat.le_of_ble_eq_true rfl⟩ (fun r_814 u_814 H locs hq hP hD hS => ?_)
        obtain ⟨hrv, hJ⟩ := hq
        subst hrv
        refine top_i (y := (S.2.2.2.2.1 + (bI wb))) rfl ?_
        refine lv_iload hx hb dL_act_817 (lv_at hl 1 rfl) ?_
        refine lv_iload hx hb dL_act_819 (lv_at hl 3 rfl) ?_
        refine lv_iadd hx hb dL_act_821 ?_
        have c_822 : ((S.2.2.2.2.1 + (bI wb)) : Int32) = (S.2.2.2.2.1 + (bI wb)) := rfl
        refine lv_icmp_ne (tgt := 829) hx hb dL_act_822 (by decide) (fun q => absurd c_822 q) (fun _ => ?_)
        refine lv_iconst (v := 1) hx hb dL_act_825 (by decide) ?_
        refine lv_goto (tgt := 830) hx hb dL_act_826 (by decide) ?_
        exact W.zret (v := 1) (ty := .boolean) hx hb hr (rfl) (fun t9 ht9 hW9 => ⟨⟨1, ((S.1, S.2.1, (tc, tr), S.2.2.2.1 + 1, S.2.2.2.2.1 + (bI wb), S.2.2.2.2.2), u_814), rfl, ⟨rfl, hJ, (by have z := hLW.leap sd u_655; rw [hlk] at z; exact z)⟩, by rw [ht9]; exact hP, hD⟩, hS.F ht9⟩) hS.2.2 dL_act_830
    refine lv_iload_n hx hb dL_act_72 rfl (lv_at hl 7 rfl) ?_
    refine lv_bipush (v := 14) hx hb dL_act_73 (by decide) ?_
    refine cS_i CF hK hN hA hS (cut_id hP hD) (l_low l D cI cZ cW cJ A (X ++ u_67) xv 14 (by decide)) (va_cwS 2 hts gL_act_L_low rfl rfl rfl (by decide +kernel) ⟨Nat.le_of_ble_eq_true rfl, Nat.le_of_ble_eq_true rfl⟩) (As := [.int xv, .int 14]) (rest := []) rfl hl.1 rfl (Nat.le_of_ble_eq_true rfl) dL_act_75 ⟨Nat.le_of_ble_eq_true rfl, Nat.le_of_ble_eq_true rfl⟩ (fun r_75 u_75 H locs hq hP hD hS => ?_)
    obtain ⟨hk_75, hrv⟩ := hq
    subst hrv
    have hP : va_P D vwCl ((X ++ u_67)) H := hP
    have hD : va_D A ((X ++ u_67)) := hD
    rcases (show u_75 = 0 ∨ u_75 = 1 ∨ u_75 = 2 ∨ u_75 = 3 ∨ u_75 = 4 ∨ u_75 = 5 ∨ u_75 = 6 ∨ u_75 = 7 ∨ u_75 = 8 ∨ u_75 = 9 ∨ u_75 = 10 ∨ u_75 = 11 ∨ u_75 = 12 ∨ u_75 = 13 by omega) with rfl | rfl | rfl | rfl | rfl | rfl | rfl | rfl | rfl | rfl | rfl | rfl | rfl | rfl
    · refine lv_tableIn (tgt := 132) hx hb dL_act_78 (by decide) (by decide) rfl (by decide) ?_
      exact join_132  _ _ hP hD hS _ (lv_sub hl [0, 1, 2, 3, 4, 5, 6, 7, 8] rfl)
    · refine lv_tableIn (tgt := 132) hx hb dL_act_78 (by decide) (by decide) rfl (by decide) ?_
      exact join_132  _ _ hP hD hS _ (lv_sub hl [0, 1, 2, 3, 4, 5, 6, 7, 8] rfl)
    · refine lv_tableIn (tgt := 132) hx hb dL_act_78 (by decide) (by decide) rfl (by decide) ?_
      exact join_132  _ _ hP hD hS _ (lv_sub hl [0, 1, 2, 3, 4, 5, 6, 7, 8] rfl)
    · refine lv_tableIn (tgt := 132) hx hb dL_act_78 (by decide) (by decide) rfl (by decide) ?_
      exact join_132  _ _ hP hD hS _ (lv_sub hl [0, 1, 2, 3, 4, 5, 6, 7, 8] rfl)
    · refine lv_tableIn (tgt := 132) hx hb dL_act_78 (by decide) (by decide) rfl (by decide) ?_
      exact join_132  _ _ hP hD hS _ (lv_sub hl [0, 1, 2, 3, 4, 5, 6, 7, 8] rfl)
    · refine lv_tableIn (tgt := 132) hx hb dL_act_78 (by decide) (by decide) rfl (by decide) ?_
      exact join_132  _ _ hP hD hS _ (lv_sub hl [0, 1, 2, 3, 4, 5, 6, 7, 8] rfl)
    · refine lv_tableIn (tgt := 350) hx hb dL_act_78 (by decide) (by decide) rfl (by decide) ?_
      exact join_350  _ _ hP hD hS _ (lv_sub hl [0, 1, 2, 3, 4, 5, 6, 7, 8] rfl)
    · refine lv_tableIn (tgt := 424) hx hb dL_act_78 (by decide) (by decide) rfl (by decide) ?_
      exact join_424  _ _ hP hD hS _ (lv_sub hl [0, 1, 2, 3, 4, 5, 6, 7, 8] rfl)
    · refine lv_tableIn (tgt := 424) hx hb dL_act_78 (by decide) (by decide) rfl (by decide) ?_
      exact join_424  _ _ hP hD hS _ (lv_sub hl [0, 1, 2, 3, 4, 5, 6, 7, 8] rfl)
    · refine lv_tableIn (tgt := 550) hx hb dL_act_78 (by decide) (by decide) rfl (by decide) ?_
      exact join_550  _ _ hP hD hS _ (lv_sub hl [0, 1, 2, 3, 4, 5, 6, 7, 8] rfl)
    · refine lv_tableOut (tgt := 651) hx hb dL_act_78 (by decide) (by decide) ?_
      exact join_651  _ _ hP hD hS _ (lv_sub hl [0, 1, 2, 3, 4, 5, 6, 7, 8] rfl)
    · refine lv_tableOut (tgt := 651) hx hb dL_act_78 (by decide) (by decide) ?_
      exact join_651  _ _ hP hD hS _ (lv_sub hl [0, 1, 2, 3, 4, 5, 6, 7, 8] rfl)
    · refine lv_tableOut (tgt := 651) hx hb dL_act_78 (by decide) (by decide) ?_
      exact join_651  _ _ hP hD hS _ (lv_sub hl [0, 1, 2, 3, 4, 5, 6, 7, 8] rfl)
    · refine lv_tableOut (tgt := 651) hx hb dL_act_78 (by decide) (by decide) ?_
      exact join_651  _ _ hP hD hS _ (lv_sub hl [0, 1, 2, 3, 4, 5, 6, 7, 8] rfl)
  refine lv_iload_n hx hb dL_act_0 rfl (lv_at hl 2 rfl) ?_
  refine lv_iconst (v := 2) hx hb dL_act_1 (by decide) ?_
  refine cS_i CF hK hN hA hS (cut_id hP hD) (l_low l D cI cZ cW cJ A (X ++ XB) xw 2 (by decide)) (va_cwS 2 hts gL_act_L_low rfl rfl rfl (by decide +kernel) ⟨Nat.le_of_ble_eq_true rfl, Nat.le_of_ble_eq_true rfl⟩) (As := [.int xw, .int 2]) (rest := []) rfl hl.1 rfl (Nat.le_of_ble_eq_true rfl) dL_act_2 ⟨Nat.le_of_ble_eq_true rfl, Nat.le_of_ble_eq_true rfl⟩ (fun r_2 u_2 H locs hq hP hD hS => ?_)
  obtain ⟨hk_2, hrv⟩ := hq
  subst hrv
  have hP : va_P D vwCl ((X ++ XB)) H := hP
  have hD : va_D A ((X ++ XB)) := hD
  refine lv_if_ne (tgt := 12) hx hb dL_act_5 (by decide) (fun c_5 => ?_) (fun c_5 => ?_)
  · refine lv_iconst (v := (-1)) hx hb dL_act_12 (by decide) ?_
    refine lv_istore_n (lv' := [(3, .int (-1)), (0, .ref xo), (1, .int xv), (2, .int xw)]) hx hb dL_act_13 rfl hl (by decide) rfl (fun ls hl => ?_)
    refine lv_iload_n hx hb dL_act_14 rfl (lv_at hl 3 rfl) ?_
    refine lv_iconst (v := 1) hx hb dL_act_15 (by decide) ?_
    refine lv_ishr hx hb dL_act_16 ?_
    refine lv_bipush (v := 20) hx hb dL_act_17 (by decide) ?_
    refine cS_i CF hK hN hA hS (cut_id hP hD) (l_low l D cI cZ cW cJ A (X ++ XB) (xw >>> (1 &&& 31)) 20 (by decide)) (va_cwS 2 hts gL_act_L_low rfl rfl rfl (by decide +kernel) ⟨Nat.le_of_ble_eq_true rfl, Nat.le_of_ble_eq_true rfl⟩) (As := [.int (xw >>> (1 &&& 31)), .int 20]) (rest := []) rfl hl.1 rfl (Nat.le_of_ble_eq_true rfl) dL_act_19 ⟨Nat.le_of_ble_eq_true rfl, Nat.le_of_ble_eq_true rfl⟩ (fun r_19 u_19 H locs hq hP hD hS => ?_)
    obtain ⟨hk_19, hrv⟩ := hq
    subst hrv
    have hP : va_P D vwCl ((X ++ XB)) H := hP
    have hD : va_D A ((X ++ XB)) := hD
    refine lv_istore (lv' := [(4, .int (nI u_19)), (3, .int (-1)), (0, .ref xo), (1, .int xv), (2, .int xw)]) hx hb dL_act_22 hl (by decide) rfl (fun ls hl => ?_)
    refine lv_iload_n hx hb dL_act_24 rfl (lv_at hl 4 rfl) ?_
    refine lv_bipush (v := 6) hx hb dL_act_25 (by decide) ?_
    refine lv_ishr hx hb dL_act_27 ?_
    refine lv_iload_n hx hb dL_act_28 rfl (lv_at hl 4 rfl) ?_
    refine lv_bipush (v := 12) hx hb dL_act_29 (by decide) ?_
    refine lv_ishr hx hb dL_act_31 ?_
    refine lv_iconst (v := 3) hx hb dL_act_32 (by decide) ?_
    refine cS_i CF hK hN hA hS (cut_id hP hD) (l_low l D cI cZ cW cJ A (X ++ XB) (xw >>> (12 &&& 31)) 3 (by decide)) (va_cwS 2 hts gL_act_L_low rfl rfl rfl (by decide +kernel) ⟨Nat.le_of_ble_eq_true rfl, Nat.le_of_ble_eq_true rfl⟩) (As := [.int (xw >>> (12 &&& 31)), .int 3]) (rest := [.int (xw >>> (6 &&& 31))]) rfl hl.1 rfl (Nat.le_of_ble_eq_true rfl) dL_act_33 ⟨Nat.le_of_ble_eq_true rfl, Nat.le_of_ble_eq_true rfl⟩ (fun r_33 u_33 H locs hq hP hD hS => ?_)
    obtain ⟨hk_33, hrv⟩ := hq
    subst hrv
    have hP : va_P D vwCl ((X ++ XB)) H := hP
    have hD : va_D A ((X ++ XB)) := hD
    refine lv_if_ne (tgt := 44) hx hb dL_act_36 (by decide) (fun c_36 => ?_) (fun c_36 => ?_)
    · refine lv_iconst (v := 4) hx hb dL_act_44 (by decide) ?_
      refine cS_i CF hK hN hA hS (cut_id hP hD) (l_low l D cI cZ cW cJ A (X ++ XB) (xw >>> (6 &&& 31)) 4 (by decide)) (va_cwS 2 hts gL_act_L_low rfl rfl rfl (by decide +kernel) ⟨Nat.le_of_ble_eq_true rfl, Nat.le_of_ble_eq_true rfl⟩) (As := [.int (xw >>> (6 &&& 31)), .int 4]) (rest := []) rfl hl.1 rfl (Nat.le_of_ble_eq_true rfl) dL_act_45 ⟨Nat.le_of_ble_eq_true rfl, Nat.le_of_ble_eq_true rfl⟩ (fun r_45 u_45 H locs hq hP hD hS => ?_)
      obtain ⟨hk_45, hrv⟩ := hq
      subst hrv
      have hP : va_P D vwCl ((X ++ XB)) H := hP
      have hD : va_D A ((X ++ XB)) := hD
      refine lv_istore (lv' := [(5, .int (nI u_45)), (4, .int (nI u_19)), (3, .int (-1)), (0, .ref xo), (1, .int xv), (2, .int xw)]) hx hb dL_act_48 hl (by decide) rfl (fun ls hl => ?_)
      exact join_50 (-1) u_19 u_45 (Or.inr rfl) (by omega) (by omega) _ _ hP hD hS _ (lv_sub hl [0, 1, 2, 5, 4, 3] rfl)
    · refine lv_bipush (v := 10) hx hb dL_act_39 (by decide) ?_
      refine lv_goto (tgt := 45) hx hb dL_act_41 (by decide) ?_
      refine cS_i CF hK hN hA hS (cut_id hP hD) (l_low l D cI cZ cW cJ A (X ++ XB) (xw >>> (6 &&& 31)) 10 (by decide)) (va_cwS 2 hts gL_act_L_low rfl rfl rfl (by decide +kernel) ⟨Nat.le_of_ble_eq_true rfl, Nat.le_of_ble_eq_true rfl⟩) (As := [.int (xw >>> (6 &&& 31)), .int 10]) (rest := []) rfl hl.1 rfl (Nat.le_of_ble_eq_true rfl) dL_act_45 ⟨Nat.le_of_ble_eq_true rfl, Nat.le_of_ble_eq_true rfl⟩ (fun r_45 u_45 H locs hq hP hD hS => ?_)
      obtain ⟨hk_45, hrv⟩ := hq
      subst hrv
      have hP : va_P D vwCl ((X ++ XB)) H := hP
      have hD : va_D A ((X ++ XB)) := hD
      refine lv_istore (lv' := [(5, .int (nI u_45)), (4, .int (nI u_19)), (3, .int (-1)), (0, .ref xo), (1, .int xv), (2, .int xw)]) hx hb dL_act_48 hl (by decide) rfl (fun ls hl => ?_)
      exact join_50 (-1) u_19 u_45 (Or.inr rfl) (by omega) (by omega) _ _ hP hD hS _ (lv_sub hl [0, 1, 2, 5, 4, 3] rfl)
  · refine lv_iconst (v := 1) hx hb dL_act_8 (by decide) ?_
    refine lv_goto (tgt := 13) hx hb dL_act_9 (by decide) ?_
    refine lv_istore_n (lv' := [(3, .int 1), (0, .ref xo), (1, .int xv), (2, .int xw)]) hx hb dL_act_13 rfl hl (by decide) rfl (fun ls hl => ?_)
    refine lv_iload_n hx hb dL_act_14 rfl (lv_at hl 3 rfl) ?_
    refine lv_iconst (v := 1) hx hb dL_act_15 (by decide) ?_
    refine lv_ishr hx hb dL_act_16 ?_
    refine lv_bipush (v := 20) hx hb dL_act_17 (by decide) ?_
    refine cS_i CF hK hN hA hS (cut_id hP hD) (l_low l D cI cZ cW cJ A (X ++ XB) (xw >>> (1 &&& 31)) 20 (by decide)) (va_cwS 2 hts gL_act_L_low rfl rfl rfl (by decide +kernel) ⟨Nat.le_of_ble_eq_true rfl, Nat.le_of_ble_eq_true rfl⟩) (As := [.int (xw >>> (1 &&& 31)), .int 20]) (rest := []) rfl hl.1 rfl (Nat.le_of_ble_eq_true rfl) dL_act_19 ⟨Nat.le_of_ble_eq_true rfl, Nat.le_of_ble_eq_true rfl⟩ (fun r_19 u_19 H locs hq hP hD hS => ?_)
    obtain ⟨hk_19, hrv⟩ := hq
    subst hrv
    have hP : va_P D vwCl ((X ++ XB)) H := hP
    have hD : va_D A ((X ++ XB)) := hD
    refine lv_istore (lv' := [(4, .int (nI u_19)), (3, .int 1), (0, .ref xo), (1, .int xv), (2, .int xw)]) hx hb dL_act_22 hl (by decide) rfl (fun ls hl => ?_)
    refine lv_iload_n hx hb dL_act_24 rfl (lv_at hl 4 rfl) ?_
    refine lv_bipush (v := 6) hx hb dL_act_25 (by decide) ?_
    refine lv_ishr hx hb dL_act_27 ?_
    refine lv_iload_n hx hb dL_act_28 rfl (lv_at hl 4 rfl) ?_
    refine lv_bipush (v := 12) hx hb dL_act_29 (by decide) ?_
    refine lv_ishr hx hb dL_act_31 ?_
    refine lv_iconst (v := 3) hx hb dL_act_32 (by decide) ?_
    refine cS_i CF hK hN hA hS (cut_id hP hD) (l_low l D cI cZ cW cJ A (X ++ XB) (xw >>> (12 &&& 31)) 3 (by decide)) (va_cwS 2 hts gL_act_L_low rfl rfl rfl (by decide +kernel) ⟨Nat.le_of_ble_eq_true rfl, Nat.le_of_ble_eq_true rfl⟩) (As := [.int (xw >>> (12 &&& 31)), .int 3]) (rest := [.int (xw >>> (6 &&& 31))]) rfl hl.1 rfl (Nat.le_of_ble_eq_true rfl) dL_act_33 ⟨Nat.le_of_ble_eq_true rfl, Nat.le_of_ble_eq_true rfl⟩ (fun r_33 u_33 H locs hq hP hD hS => ?_)
    obtain ⟨hk_33, hrv⟩ := hq
    subst hrv
    have hP : va_P D vwCl ((X ++ XB)) H := hP
    have hD : va_D A ((X ++ XB)) := hD
    refine lv_if_ne (tgt := 44) hx hb dL_act_36 (by decide) (fun c_36 => ?_) (fun c_36 => ?_)
    · refine lv_iconst (v := 4) hx hb dL_act_44 (by decide) ?_
      refine cS_i CF hK hN hA hS (cut_id hP hD) (l_low l D cI cZ cW cJ A (X ++ XB) (xw >>> (6 &&& 31)) 4 (by decide)) (va_cwS 2 hts gL_act_L_low rfl rfl rfl (by decide +kernel) ⟨Nat.le_of_ble_eq_true rfl, Nat.le_of_ble_eq_true rfl⟩) (As := [.int (xw >>> (6 &&& 31)), .int 4]) (rest := []) rfl hl.1 rfl (Nat.le_of_ble_eq_true rfl) dL_act_45 ⟨Nat.le_of_ble_eq_true rfl, Nat.le_of_ble_eq_true rfl⟩ (fun r_45 u_45 H locs hq hP hD hS => ?_)
      obtain ⟨hk_45, hrv⟩ := hq
      subst hrv
      have hP : va_P D vwCl ((X ++ XB)) H := hP
      have hD : va_D A ((X ++ XB)) := hD
      refine lv_istore (lv' := [(5, .int (nI u_45)), (4, .int (nI u_19)), (3, .int 1), (0, .ref xo), (1, .int xv), (2, .int xw)]) hx hb dL_act_48 hl (by decide) rfl (fun ls hl => ?_)
      exact join_50 1 u_19 u_45 (Or.inl rfl) (by omega) (by omega) _ _ hP hD hS _ (lv_sub hl [0, 1, 2, 5, 4, 3] rfl)
    · refine lv_bipush (v := 10) hx hb dL_act_39 (by decide) ?_
      refine lv_goto (tgt := 45) hx hb dL_act_41 (by decide) ?_
      refine cS_i CF hK hN hA hS (cut_id hP hD) (l_low l D cI cZ cW cJ A (X ++ XB) (xw >>> (6 &&& 31)) 10 (by decide)) (va_cwS 2 hts gL_act_L_low rfl rfl rfl (by decide +kernel) ⟨Nat.le_of_ble_eq_true rfl, Nat.le_of_ble_eq_true rfl⟩) (As := [.int (xw >>> (6 &&& 31)), .int 10]) (rest := []) rfl hl.1 rfl (Nat.le_of_ble_eq_true rfl) dL_act_45 ⟨Nat.le_of_ble_eq_true rfl, Nat.le_of_ble_eq_true rfl⟩ (fun r_45 u_45 H locs hq hP hD hS => ?_)
      obtain ⟨hk_45, hrv⟩ := hq
      subst hrv
      have hP : va_P D vwCl ((X ++ XB)) H := hP
      have hD : va_D A ((X ++ XB)) := hD
      refine lv_istore (lv' := [(5, .int (nI u_45)), (4, .int (nI u_19)), (3, .int 1), (0, .ref xo), (1, .int xv), (2, .int xw)]) hx hb dL_act_48 hl (by decide) rfl (fun ls hl => ?_)
      exact join_50 1 u_19 u_45 (Or.inl rfl) (by omega) (by omega) _ _ hP hD hS _ (lv_sub hl [0, 1, 2, 5, 4, 3] rfl)
