/-! leaps from a ledge's cells, one by one -/
def sgn (k : Nat) : Int32 := if k % 2 = 0 then 1 else -1
abbrev EvH (S : KS) (lr lc ru xf xt k : Nat) : Prop := Ev (Bk S.1) S.2.1.1 S.2.1.2.1 S.2.1.2.2 (20 * lr + (lc + k / 2)) (sgn k) ru (100 * xf + xt)
theorem there_step {S : KS} (hW : Wf S) {xf xt ru xc xr i : Nat} {d : Int32} (ht : xt < nS S) (hu : ru ≤ 3) (hd : d = 1 ∨ d = -1) (hc : xc < 20) (hr9 : xr < 10) (hi : i = 20 * xr + xc) (hS : SB (Bk S.1) i = true) (hl : lgN (SB (Bk S.1)) i = xf) :
    (leapS S xc xr d ru 0 = -1 ∧ ¬ Ev (Bk S.1) S.2.1.1 S.2.1.2.1 S.2.1.2.2 i d ru (100 * xf + xt)) ∨ (∃ tc tr it : Nat, tc < 20 ∧ tr < 10 ∧ it < 100 ∧ leapS S xc xr d ru 0 = nI tc ∧ leapS S xc xr d ru 1 = nI tr ∧ cellS S tc tr 2 = nI it ∧
      (it = xt → Ev (Bk S.1) S.2.1.1 S.2.1.2.1 S.2.1.2.2 i d ru (100 * xf + xt)) ∧ (it ≠ xt → ¬ Ev (Bk S.1) S.2.1.1 S.2.1.2.1 S.2.1.2.2 i d ru (100 * xf + xt))) := by
  have hn : nS S ≤ 100 := nL_le _
  subst hi
  have hst : stB (Bk S.1) (nI xc) (nI xr) = true := by rw [SB_rc hc] at hS; exact hS
  have a1 : (20 * xr + xc) % 20 = xc := by omega
  have a2 : (20 * xr + xc) / 20 = xr := by omega
  obtain ⟨m9, hm9, em, h⟩ := lps hW hd hc hr9 hu hst
  rcases h with ⟨q, hno⟩ | ⟨q, tc, tr, tt, tp, k9, wb, e0, e1, -, -, -, hs9, htc, htr, -⟩
  · refine Or.inl ⟨hno 0, ?_⟩
    rintro ⟨-, h2, -⟩
    rw [a1, a2, em] at h2
    have := (nI_leI (by omega) (by omega)).mp h2
    omega
  · have hno : ¬ grB (Bk S.1) (nI xc) (nI xr) d < nI ru := fun z => by
      rw [em] at z
      have := (nI_ltI (by omega) (by omega)).mp z
      omega
    have hl0 : ∀ k, leapS S xc xr d ru k = leapF (flyR (Bk S.1) S.2.1.1 S.2.1.2.1 S.2.1.2.2 d xc xr ru) k := fun k => by
      unfold leapS
      rw [if_neg hno]
    have f0 : (flyR (Bk S.1) S.2.1.1 S.2.1.2.1 S.2.1.2.2 d xc xr ru).1 = nI tc := (hl0 0).symm.trans e0
    have f1 : (flyR (Bk S.1) S.2.1.1 S.2.1.2.1 S.2.1.2.2 d xc xr ru).2.1 = nI tr := (hl0 1).symm.trans e1
    refine Or.inr ⟨tc, tr, lgN (SB (Bk S.1)) (20 * tr + tc), htc, htr, (lgN_lt (by omega) (by rw [SB_rc htc]; exact hs9)).2, e0, e1, (cell_st htc hs9).2, fun z => ?_, fun z => ?_⟩
    · refine ⟨by omega, ?_, hu, 20 * tr + tc, by omega, by rw [SB_rc htc]; exact hs9, ?_, ?_, by rw [hl, z]⟩
      · rw [a1, a2, em]
        exact (nI_leI (by omega) (by omega)).mpr q
      · rw [a1, a2, show (20 * tr + tc) % 20 = tc by omega]; exact f0
      · rw [a1, a2, show (20 * tr + tc) / 20 = tr by omega]; exact f1
    · rintro ⟨-, -, -, j, hj, hSj, g1, g2, g3⟩
      rw [a1, a2, f0] at g1
      rw [a1, a2, f1] at g2
      have y1 := nI_inj (by omega) (by omega) g1
      have y2 := nI_inj (by omega) (by omega) g2
      have y3 : j = 20 * tr + tc := by omega
      rw [hl, y3] at g3
      exact z (by omega)
theorem no_ext {P : Nat → Prop} {k : Nat} (h : ∀ j, j < k → ¬ P j) (hk : ¬ P k) : ∀ j, j < k + 1 → ¬ P j := fun j hj => by
  rcases Nat.lt_or_ge j k with z | z
  · exact h j z
  · rw [show j = k by omega]; exact hk
theorem all_ext {P : Nat → Prop} {k : Nat} (h : ∀ j, j < k → P j) (hk : P k) : ∀ j, j < k + 1 → P j := fun j hj => by
  rcases Nat.lt_or_ge j k with z | z
  · exact h j z
  · rw [show j = k by omega]; exact hk
theorem sgn_pm (k : Nat) : sgn k = 1 ∨ sgn k = -1 := by
  unfold sgn
  split
  · exact Or.inl rfl
  · exact Or.inr rfl
theorem there_all {S : KS} {xf xt ru lr lc ln : Nat} (hf : xf < nS S) (ht : xt < nS S) (hc : lc + ln ≤ 20) (hr : lr < 10) (h1 : ∀ x, x < ln → SB (Bk S.1) (20 * lr + (lc + x)) = true ∧ lgN (SB (Bk S.1)) (20 * lr + (lc + x)) = xf)
    (h2 : ∀ i, i < 200 → SB (Bk S.1) i = true → lgN (SB (Bk S.1)) i = xf → ∃ x, x < ln ∧ i = 20 * lr + (lc + x)) : EvS S xf xt ru ↔ ∃ k, k < 2 * ln ∧ EvH S lr lc ru xf xt k := by
  have hn : nS S ≤ 100 := nL_le _
  constructor
  · rintro ⟨i, d, hi, hd, hE⟩
    obtain ⟨g0, g1, g2, j, hj, hSj, g3, g4, g5⟩ := id hE
    have hst := (gr_le (by omega) g1).1
    have hSi : SB (Bk S.1) i = true := by
      have e : 20 * (i / 20) + i % 20 = i := by omega
      rw [← e, SB_rc (by omega)]; exact hst
    have b1 := (lgN_lt hi hSi).2
    have b2 := (lgN_lt hj hSj).2
    obtain ⟨x, hx, e⟩ := h2 i hi hSi (by omega)
    rcases hd with rfl | rfl
    · refine ⟨2 * x, by omega, ?_⟩
      show Ev _ _ _ _ (20 * lr + (lc + 2 * x / 2)) (sgn (2 * x)) ru _
      rw [show 2 * x / 2 = x by omega, show sgn (2 * x) = 1 from if_pos (by omega), ← e]
      exact hE
    · refine ⟨2 * x + 1, by omega, ?_⟩
      show Ev _ _ _ _ (20 * lr + (lc + (2 * x + 1) / 2)) (sgn (2 * x + 1)) ru _
      rw [show (2 * x + 1) / 2 = x by omega, show sgn (2 * x + 1) = -1 from if_neg (by omega), ← e]
      exact hE
  · rintro ⟨k, hk, hE⟩
    exact ⟨_, _, hE.1, sgn_pm k, hE⟩
set_option maxHeartbeats 4000000 in
set_option maxRecDepth 100000 in
theorem l_isThere (l : Launch) (D : va_G) (cI cZ cW cJ : ClassId) (A : Nat → Prop) (X : va_W) (xo : Nat) (S : KS) (XB : va_W) (xf xt ru : Nat) (hJ : YJ cI cZ cW xo S XB) (hf : xf < nS S) (htx : xt < nS S) (hu : ru ≤ 3) : Met l yL_isThere wsL_isThere ({ frames := 7, cells := 0, slots := 0, locals := 167 }) (va_Pc [.ref xo, .int (nI xf), .int (nI xt), .int (nI ru)] (wd D (tyL cI cZ cW cJ) A ((X ++ XB)))) (va_Qi (fun (r : Int32) (u : va_W × Bool) => r = bI u.2 ∧ (u.2 = true ↔ EvS S xf xt ru) ∧ YJ cI cZ cW xo S u.1) (fun (u : va_W × Bool) t => wq D A ((X ++ u.1)) t) A) 0 0 A := by
  refine Met.ofW (cc := cL_isThere) (maxL := 9) (ret := (some .boolean)) (by decide) rfl ?_
  intro p e s m args below meth c s₁ B hml hv
  obtain ⟨rfl, hsz9, hP, hK, hD, hN⟩ := hv
  have hx := B.exec
  have hb := B.bytes
  have hr := B.returns
  have hts := atoms_spec (ws := wsL_isThere) B.pre
  have hown : s.vm.findClass RL = some m.cls := findClass_of_methodNamed B.named
  have hlocks := B.notSynchronized
  have CF : CallFix p m c cL_isThere 9 s _ wsL_isThere RL := ⟨hx, hb, hml, hown, hts⟩
  have hA : ∀ q : Nat, s.heap.size ≤ q → A q := hsz9
  have hS : va_S A s.heap s.heap [] := va_S.rf
  have hl := lv_entry ([.ref xo, .int (nI xf), .int (nI xt), .int (nI ru)]) (n := 9) (Nat.le_of_ble_eq_true rfl)
  rw [lg_entry_eq]
  generalize (lg_sl ([.ref xo, .int (nI xf), .int (nI xt), .int (nI ru)]) ++ List.replicate (9 - (lg_sl ([.ref xo, .int (nI xf), .int (nI xt), .int (nI ru)])).length) Slot.unset).toArray = ls at hl ⊢
  have hl : lv_has ls 9 [(0, .ref xo), (1, .int (nI xf)), (2, .int (nI xt)), (3, .int (nI ru))] := hl
  show W p l e ({ frames := 7, cells := 0, slots := 0, locals := 167 } : Room) s m (([.ref xo, .int (nI xf), .int (nI xt), .int (nI ru)] : List Value).toArray) below meth c s.heap [] 0 0 (MQ below (va_Qi (fun (r : Int32) (u : va_W × Bool) => r = bI u.2 ∧ (u.2 = true ↔ EvS S xf xt ru) ∧ YJ cI cZ cW xo S u.1) (fun (u : va_W × Bool) t => wq D A ((X ++ u.1)) t) A) (([.ref xo, .int (nI xf), .int (nI xt), .int (nI ru)] : List Value).toArray) s 0 0 A) (F0 m 0 ls [])
  have hn9 : nS S ≤ 100 := nL_le _
  obtain ⟨lr, lc, ln, hlr, hln, hlc, e0, e1, e2, hA1, hA2⟩ := ledge_run hf
  refine lv_aload_n hx hb dL_isThere_0 rfl (lv_at hl 0 rfl) ?_
  refine lv_iload_n hx hb dL_isThere_1 rfl (lv_at hl 1 rfl) ?_
  refine lv_iconst (v := 0) hx hb dL_isThere_2 (by decide) ?_
  refine cB_i hJ.hd CF hK hN hA hS hP hD (b_ledgeOf l D cI cZ cW cJ A X xo S XB xf 0 (by omega) (by decide) hJ) (cwV 2 hts gL_isThere_X8_ledgeOf rfl rfl rfl (by decide +kernel) ⟨Nat.le_of_ble_eq_true rfl, Nat.le_of_ble_eq_true rfl⟩) (As := [.int (nI xf), .int 0]) (rest := []) rfl hl.1 rfl (Nat.le_of_ble_eq_true rfl) dL_isThere_3 ⟨Nat.le_of_ble_eq_true rfl, Nat.le_of_ble_eq_true rfl⟩ (fun r_3 u_3 H locs hq hP hD hS => ?_)
  obtain ⟨hrv, hJ⟩ := hq
  subst hrv
  refine top_i (y := (nI lr)) e0 ?_
  refine lv_istore (lv' := [(4, .int (nI lr)), (0, .ref xo), (1, .int (nI xf)), (2, .int (nI xt)), (3, .int (nI ru))]) hx hb dL_isThere_6 hl (by decide) rfl (fun ls hl => ?_)
  refine lv_aload_n hx hb dL_isThere_8 rfl (lv_at hl 1 rfl) ?_
  refine lv_iload_n hx hb dL_isThere_9 rfl (lv_at hl 2 rfl) ?_
  refine lv_iconst (v := 1) hx hb dL_isThere_10 (by decide) ?_
  refine cB_i hJ.hd CF hK hN hA hS hP hD (b_ledgeOf l D cI cZ cW cJ A X xo S u_3 xf 1 (by omega) (by decide) hJ) (cwV 2 hts gL_isThere_X8_ledgeOf rfl rfl rfl (by decide +kernel) ⟨Nat.le_of_ble_eq_true rfl, Nat.le_of_ble_eq_true rfl⟩) (As := [.int (nI xf), .int 1]) (rest := []) rfl hl.1 rfl (Nat.le_of_ble_eq_true rfl) dL_isThere_11 ⟨Nat.le_of_ble_eq_true rfl, Nat.le_of_ble_eq_true rfl⟩ (fun r_11 u_11 H locs hq hP hD hS => ?_)
  obtain ⟨hrv, hJ⟩ := hq
  subst hrv
  refine top_i (y := (nI lc)) e1 ?_
  refine lv_istore (lv' := [(5, .int (nI lc)), (4, .int (nI lr)), (0, .ref xo), (1, .int (nI xf)), (2, .int (nI xt)), (3, .int (nI ru))]) hx hb dL_isThere_14 hl (by decide) rfl (fun ls hl => ?_)
  refine lv_iconst (v := 0) hx hb dL_isThere_16 (by decide) ?_
  refine lv_istore (lv' := [(6, .int 0), (5, .int (nI lc)), (4, .int (nI lr)), (0, .ref xo), (1, .int (nI xf)), (2, .int (nI xt)), (3, .int (nI ru))]) hx hb dL_isThere_17 hl (by decide) rfl (fun ls hl => ?_)
  have loop_19 : ∀ (nfu : Nat) (k9 : Nat) (XB9 : va_W) (hn_19 : 2 * ln - k9 < nfu) (hk8 : k9 ≤ 2 * ln) (hno : ∀ j, j < k9 → ¬ EvH S lr lc ru xf xt j) (hJ : YJ cI cZ cW xo S XB9) (H : Heap) (locs : List Loc) (hP : va_P D vwCl ((X ++ XB9)) H) (hD : va_D A ((X ++ XB9))) (hS : va_S A s.heap H locs) (ls : Array Slot) (hl : lv_has ls 9 [(6, .int (nI k9)), (5, .int (nI lc)), (4, .int (nI lr)), (3, .int (nI ru)), (2, .int (nI xt)), (1, .int (nI xf)), (0, .ref xo)]), W p l e ({ frames := 7, cells := 0, slots := 0, locals := 167 } : Room) s m (([.ref xo, .int (nI xf), .int (nI xt), .int (nI ru)] : List Value).toArray) below meth c H locs 0 0 (MQ below (va_Qi (fun (r : Int32) (u : va_W × Bool) => r = bI u.2 ∧ (u.2 = true ↔ EvS S xf xt ru) ∧ YJ cI cZ cW xo S u.1) (fun (u : va_W × Bool) t => wq D A ((X ++ u.1)) t) A) (([.ref xo, .int (nI xf), .int (nI xt), .int (nI ru)] : List Value).toArray) s 0 0 A) (F0 m 19 ls []) := by
    intro nfu
    induction nfu with
    | zero => intro k9 XB9 hn_19; exact absurd hn_19 (Nat.not_lt_zero _)
    | succ nfu ih_19 =>
      intro k9 XB9 hn_19 hk8 hno hJ H locs hP hD hS ls hl
      refine lv_iload hx hb dL_isThere_19 (lv_at hl 0 rfl) ?_
      refine lv_iconst (v := 2) hx hb dL_isThere_21 (by decide) ?_
      refine lv_aload_n hx hb dL_isThere_22 rfl (lv_at hl 6 rfl) ?_
      refine lv_iload_n hx hb dL_isThere_23 rfl (lv_at hl 5 rfl) ?_
      refine lv_iconst (v := 2) hx hb dL_isThere_24 (by decide) ?_
      refine cB_i hJ.hd CF hK hN hA hS hP hD (b_ledgeOf l D cI cZ cW cJ A X xo S XB9 xf 2 (by omega) (by decide) hJ) (cwV 2 hts gL_isThere_X8_ledgeOf rfl rfl rfl (by decide +kernel) ⟨Nat.le_of_ble_eq_true rfl, Nat.le_of_ble_eq_true rfl⟩) (As := [.int (nI xf), .int 2]) (rest := [.int 2, .int (nI k9)]) rfl hl.1 rfl (Nat.le_of_ble_eq_true rfl) dL_isThere_25 ⟨Nat.le_of_ble_eq_true rfl, Nat.le_of_ble_eq_true rfl⟩ (fun r_25 u_25 H locs hq hP hD hS => ?_)
      obtain ⟨hrv, hJ⟩ := hq
      subst hrv
      refine top_i (y := (nI ln)) e2 ?_
      refine lv_imul hx hb dL_isThere_28 ?_
      refine top_i (y := (nI (2 * ln))) (pk_mul 2 ln) ?_
      refine lv_icmp_ge (tgt := 106) hx hb dL_isThere_29 (by decide) (fun c_29 => ?_) (fun c_29 => ?_)
      · have hnE : ¬ EvS S xf xt ru := fun q => by
          obtain ⟨j, hj, hE⟩ := (there_all hf htx hlc hlr hA1 hA2).mp q
          have := (nI_leI (by omega) (by omega)).mp c_29
          exact absurd hE (hno j (by omega))
        refine lv_iconst (v := 0) hx hb dL_isThere_106 (by decide) ?_
        exact W.zret (v := 0) (ty := .boolean) hx hb hr (rfl) (fun t9 ht9 hW9 => ⟨⟨0, (u_25, false), rfl, ⟨rfl, ⟨fun q => absurd q Bool.false_ne_true, fun q => absurd q hnE⟩, hJ⟩, by rw [ht9]; exact hP, hD⟩, hS.F ht9⟩) hS.2.2 dL_isThere_107
      · have hk9 : k9 < 2 * ln := lt_of_nge (by omega) (by omega) c_29
        obtain ⟨hSk, hlk⟩ := hA1 (k9 / 2) (by omega)
        refine lv_iload hx hb dL_isThere_32 (lv_at hl 0 rfl) ?_
        refine lv_iconst (v := 2) hx hb dL_isThere_34 (by decide) ?_
        refine lv_irem hx hb dL_isThere_35 (by decide) ?_
        refine top_i (y := (nI (k9 % 2))) (pk_rem (a := k9) (d := 2) (by omega) (by decide) (by decide)) ?_
        refine lv_if_ne (tgt := 43) hx hb dL_isThere_36 (by decide) (fun c_36 => ?_) (fun c_36 => ?_)
        · refine lv_iconst (v := (-1)) hx hb dL_isThere_43 (by decide) ?_
          refine lv_istore (lv' := [(7, .int (-1)), (6, .int (nI k9)), (5, .int (nI lc)), (4, .int (nI lr)), (3, .int (nI ru)), (2, .int (nI xt)), (1, .int (nI xf)), (0, .ref xo)]) hx hb dL_isThere_44 hl (by decide) rfl (fun ls hl => ?_)
          have hpar : ¬ k9 % 2 = 0 := fun q => c_36 (congrArg nI q)
          have hsg : sgn k9 = (-1) := if_neg hpar
          rcases there_step (S := S) (xt := xt) (ru := ru) (d := (-1)) hJ.wf htx hu (Or.inr rfl) (show lc + k9 / 2 < 20 by omega) hlr rfl hSk hlk with ⟨eA, nA⟩ | ⟨tc, tr, it, htc, htr, hit, eB0, eB1, eB2, yB, nB⟩
          · have hnk : ¬ EvH S lr lc ru xf xt k9 := by show ¬ Ev _ _ _ _ _ (sgn k9) _ _; rw [hsg]; exact nA
            refine lv_aload_n hx hb dL_isThere_46 rfl (lv_at hl 7 rfl) ?_
            refine lv_iload hx hb dL_isThere_47 (lv_at hl 2 rfl) ?_
            refine lv_iload hx hb dL_isThere_49 (lv_at hl 1 rfl) ?_
            refine lv_iconst (v := 2) hx hb dL_isThere_51 (by decide) ?_
            refine lv_idiv hx hb dL_isThere_52 (by decide) ?_
            refine top_i (y := (nI (k9 / 2))) (pk_div (a := k9) (d := 2) (by omega) (by decide) (by decide)) ?_
            refine lv_iadd hx hb dL_isThere_53 ?_
            refine top_i (y := (nI (lc + (k9 / 2)))) (nI_add lc (k9 / 2)) ?_
            refine lv_iload hx hb dL_isThere_54 (lv_at hl 3 rfl) ?_
            refine lv_iload hx hb dL_isThere_56 (lv_at hl 0 rfl) ?_
            refine lv_iload_n hx hb dL_isThere_58 rfl (lv_at hl 4 rfl) ?_
            refine lv_iconst (v := 0) hx hb dL_isThere_59 (by decide) ?_
            refine cB_i hJ.hd CF hK hN hA hS hP hD (b_ifLeapt l D cI cZ cW cJ A X xo S u_25 (lc + (k9 / 2)) lr (-1) ru 0 (by omega) (by omega) (by decide) (by omega) (by decide) hJ) (cwV 5 hts gL_isThere_X8_ifLeapt rfl rfl rfl (by decide +kernel) ⟨Nat.le_of_ble_eq_true rfl, Nat.le_of_ble_eq_true rfl⟩) (As := [.int (nI (lc + (k9 / 2))), .int (nI lr), .int (-1), .int (nI ru), .int 0]) (rest := []) rfl hl.1 rfl (Nat.le_of_ble_eq_true rfl) dL_isThere_60 ⟨Nat.le_of_ble_eq_true rfl, Nat.le_of_ble_eq_true rfl⟩ (fun r_60 u_60 H locs hq hP hD hS => ?_)
            obtain ⟨hrv, hJ⟩ := hq
            subst hrv
            refine top_i (y := (-1)) eA ?_
            refine lv_istore (lv' := [(8, .int (-1)), (7, .int (-1)), (6, .int (nI k9)), (5, .int (nI lc)), (4, .int (nI lr)), (3, .int (nI ru)), (2, .int (nI xt)), (1, .int (nI xf)), (0, .ref xo)]) hx hb dL_isThere_63 hl (by decide) rfl (fun ls hl => ?_)
            refine lv_iload hx hb dL_isThere_65 (lv_at hl 0 rfl) ?_
            have c_67 : ((-1) : Int32) < 0 := by decide
            refine lv_if_lt (tgt := 100) hx hb dL_isThere_67 (by decide) (fun _ => ?_) (fun q => absurd c_67 q)
            refine lv_iinc (v := (nI (k9 + 1))) (lv' := [(6, .int (nI (k9 + 1))), (8, .int (-1)), (7, .int (-1)), (5, .int (nI lc)), (4, .int (nI lr)), (3, .int (nI ru)), (2, .int (nI xt)), (1, .int (nI xf)), (0, .ref xo)]) hx hb dL_isThere_100 hl (k := 2) rfl (nI_1 k9) (by decide) rfl (fun ls hl => ?_)
            refine lv_goto (tgt := 19) hx hb dL_isThere_103 (by decide) ?_
            exact ih_19 (k9 + 1) u_60 (by omega) (by omega) (no_ext (P := fun j => EvH S lr lc ru xf xt j) hno hnk) (hJ) _ _ (hP) (hD) hS _ (lv_sub hl [0, 3, 4, 5, 6, 7, 8] rfl)
          · skip
            refine lv_aload_n hx hb dL_isThere_46 rfl (lv_at hl 7 rfl) ?_
            refine lv_iload hx hb dL_isThere_47 (lv_at hl 2 rfl) ?_
            refine lv_iload hx hb dL_isThere_49 (lv_at hl 1 rfl) ?_
            refine lv_iconst (v := 2) hx hb dL_isThere_51 (by decide) ?_
            refine lv_idiv hx hb dL_isThere_52 (by decide) ?_
            refine top_i (y := (nI (k9 / 2))) (pk_div (a := k9) (d := 2) (by omega) (by decide) (by decide)) ?_
            refine lv_iadd hx hb dL_isThere_53 ?_
            refine top_i (y := (nI (lc + (k9 / 2)))) (nI_add lc (k9 / 2)) ?_
            refine lv_iload hx hb dL_isThere_54 (lv_at hl 3 rfl) ?_
            refine lv_iload hx hb dL_isThere_56 (lv_at hl 0 rfl) ?_
            refine lv_iload_n hx hb dL_isThere_58 rfl (lv_at hl 4 rfl) ?_
            refine lv_iconst (v := 0) hx hb dL_isThere_59 (by decide) ?_
            refine cB_i hJ.hd CF hK hN hA hS hP hD (b_ifLeapt l D cI cZ cW cJ A X xo S u_25 (lc + (k9 / 2)) lr (-1) ru 0 (by omega) (by omega) (by decide) (by omega) (by decide) hJ) (cwV 5 hts gL_isThere_X8_ifLeapt rfl rfl rfl (by decide +kernel) ⟨Nat.le_of_ble_eq_true rfl, Nat.le_of_ble_eq_true rfl⟩) (As := [.int (nI (lc + (k9 / 2))), .int (nI lr), .int (-1), .int (nI ru), .int 0]) (rest := []) rfl hl.1 rfl (Nat.le_of_ble_eq_true rfl) dL_isThere_60 ⟨Nat.le_of_ble_eq_true rfl, Nat.le_of_ble_eq_true rfl⟩ (fun r_60 u_60 H locs hq hP hD hS => ?_)
            obtain ⟨hrv, hJ⟩ := hq
            subst hrv
            refine top_i (y := (nI tc)) eB0 ?_
            refine lv_istore (lv' := [(8, .int (nI tc)), (7, .int (-1)), (6, .int (nI k9)), (5, .int (nI lc)), (4, .int (nI lr)), (3, .int (nI ru)), (2, .int (nI xt)), (1, .int (nI xf)), (0, .ref xo)]) hx hb dL_isThere_63 hl (by decide) rfl (fun ls hl => ?_)
            refine lv_iload hx hb dL_isThere_65 (lv_at hl 0 rfl) ?_
            have c_67 : ¬ ((nI tc) : Int32) < 0 := nI_pos (by omega)
            refine lv_if_lt (tgt := 100) hx hb dL_isThere_67 (by decide) (fun q => absurd q c_67) (fun _ => ?_)
            refine lv_aload_n hx hb dL_isThere_70 rfl (lv_at hl 8 rfl) ?_
            refine lv_iload hx hb dL_isThere_71 (lv_at hl 0 rfl) ?_
            refine lv_aload_n hx hb dL_isThere_73 rfl (lv_at hl 8 rfl) ?_
            refine lv_iload hx hb dL_isThere_74 (lv_at hl 3 rfl) ?_
            refine lv_iload hx hb dL_isThere_76 (lv_at hl 2 rfl) ?_
            refine lv_iconst (v := 2) hx hb dL_isThere_78 (by decide) ?_
            refine lv_idiv hx hb dL_isThere_79 (by decide) ?_
            refine top_i (y := (nI (k9 / 2))) (pk_div (a := k9) (d := 2) (by omega) (by decide) (by decide)) ?_
            refine lv_iadd hx hb dL_isThere_80 ?_
            refine top_i (y := (nI (lc + (k9 / 2)))) (nI_add lc (k9 / 2)) ?_
            refine lv_iload hx hb dL_isThere_81 (lv_at hl 4 rfl) ?_
            refine lv_iload hx hb dL_isThere_83 (lv_at hl 1 rfl) ?_
            refine lv_iload_n hx hb dL_isThere_85 rfl (lv_at hl 5 rfl) ?_
            refine lv_iconst (v := 1) hx hb dL_isThere_86 (by decide) ?_
            refine cB_i hJ.hd CF hK hN hA hS hP hD (b_ifLeapt l D cI cZ cW cJ A X xo S u_60 (lc + (k9 / 2)) lr (-1) ru 1 (by omega) (by omega) (by decide) (by omega) (by decide) hJ) (cwV 5 hts gL_isThere_X8_ifLeapt rfl rfl rfl (by decide +kernel) ⟨Nat.le_of_ble_eq_true rfl, Nat.le_of_ble_eq_true rfl⟩) (As := [.int (nI (lc + (k9 / 2))), .int (nI lr), .int (-1), .int (nI ru), .int 1]) (rest := [.int (nI tc), .ref xo]) rfl hl.1 rfl (Nat.le_of_ble_eq_true rfl) dL_isThere_87 ⟨Nat.le_of_ble_eq_true rfl, Nat.le_of_ble_eq_true rfl⟩ (fun r_87 u_87 H locs hq hP hD hS => ?_)
            obtain ⟨hrv, hJ⟩ := hq
            subst hrv
            refine top_i (y := (nI tr)) eB1 ?_
            refine lv_iconst (v := 2) hx hb dL_isThere_90 (by decide) ?_
            refine cB_i hJ.hd CF hK hN hA hS hP hD (b_cellOf l D cI cZ cW cJ A X xo S u_87 tc tr 2 (by omega) (by omega) (by decide) hJ) (cwV 3 hts gL_isThere_X8_cellOf rfl rfl rfl (by decide +kernel) ⟨Nat.le_of_ble_eq_true rfl, Nat.le_of_ble_eq_true rfl⟩) (As := [.int (nI tc), .int (nI tr), .int 2]) (rest := []) rfl hl.1 rfl (Nat.le_of_ble_eq_true rfl) dL_isThere_91 ⟨Nat.le_of_ble_eq_true rfl, Nat.le_of_ble_eq_true rfl⟩ (fun r_91 u_91 H locs hq hP hD hS => ?_)
            obtain ⟨hrv, hJ⟩ := hq
            subst hrv
            refine top_i (y := (nI it)) eB2 ?_
            refine lv_iload_n hx hb dL_isThere_94 rfl (lv_at hl 6 rfl) ?_
            by_cases hq9 : it = xt
            · have hyk : EvH S lr lc ru xf xt k9 := by show Ev _ _ _ _ _ (sgn k9) _ _; rw [hsg]; exact yB hq9
              have c_95 : ((nI it) : Int32) = (nI xt) := congrArg nI hq9
              refine lv_icmp_ne (tgt := 100) hx hb dL_isThere_95 (by decide) (fun q => absurd c_95 q) (fun _ => ?_)
              refine lv_iconst (v := 1) hx hb dL_isThere_98 (by decide) ?_
              exact W.zret (v := 1) (ty := .boolean) hx hb hr (rfl) (fun t9 ht9 hW9 => ⟨⟨1, (u_91, true), rfl, ⟨rfl, ⟨fun _ => (there_all hf htx hlc hlr hA1 hA2).mpr ⟨k9, hk9, hyk⟩, fun _ => rfl⟩, hJ⟩, by rw [ht9]; exact hP, hD⟩, hS.F ht9⟩) hS.2.2 dL_isThere_99
            · have hnk : ¬ EvH S lr lc ru xf xt k9 := by show ¬ Ev _ _ _ _ _ (sgn k9) _ _; rw [hsg]; exact nB hq9
              have c_95 : ¬ ((nI it) : Int32) = (nI xt) := nI_nee (by omega) (by omega) hq9
              refine lv_icmp_ne (tgt := 100) hx hb dL_isThere_95 (by decide) (fun _ => ?_) (fun q => absurd q c_95)
              refine lv_iinc (v := (nI (k9 + 1))) (lv' := [(6, .int (nI (k9 + 1))), (8, .int (nI tc)), (7, .int (-1)), (5, .int (nI lc)), (4, .int (nI lr)), (3, .int (nI ru)), (2, .int (nI xt)), (1, .int (nI xf)), (0, .ref xo)]) hx hb dL_isThere_100 hl (k := 2) rfl (nI_1 k9) (by decide) rfl (fun ls hl => ?_)
              refine lv_goto (tgt := 19) hx hb dL_isThere_103 (by decide) ?_
              exact ih_19 (k9 + 1) u_91 (by omega) (by omega) (no_ext (P := fun j => EvH S lr lc ru xf xt j) hno hnk) (hJ) _ _ (hP) (hD) hS _ (lv_sub hl [0, 3, 4, 5, 6, 7, 8] rfl)
        · refine lv_iconst (v := 1) hx hb dL_isThere_39 (by decide) ?_
          refine lv_goto (tgt := 44) hx hb dL_isThere_40 (by decide) ?_
          refine lv_istore (lv' := [(7, .int 1), (6, .int (nI k9)), (5, .int (nI lc)), (4, .int (nI lr)), (3, .int (nI ru)), (2, .int (nI xt)), (1, .int (nI xf)), (0, .ref xo)]) hx hb dL_isThere_44 hl (by decide) rfl (fun ls hl => ?_)
          have hpar : k9 % 2 = 0 := nI_inj (by omega) (by decide) c_36
          have hsg : sgn k9 = 1 := if_pos hpar
          rcases there_step (S := S) (xt := xt) (ru := ru) (d := 1) hJ.wf htx hu (Or.inl rfl) (show lc + k9 / 2 < 20 by omega) hlr rfl hSk hlk with ⟨eA, nA⟩ | ⟨tc, tr, it, htc, htr, hit, eB0, eB1, eB2, yB, nB⟩
          · have hnk : ¬ EvH S lr lc ru xf xt k9 := by show ¬ Ev _ _ _ _ _ (sgn k9) _ _; rw [hsg]; exact nA
            refine lv_aload_n hx hb dL_isThere_46 rfl (lv_at hl 7 rfl) ?_
            refine lv_iload hx hb dL_isThere_47 (lv_at hl 2 rfl) ?_
            refine lv_iload hx hb dL_isThere_49 (lv_at hl 1 rfl) ?_
            refine lv_iconst (v := 2) hx hb dL_isThere_51 (by decide) ?_
            refine lv_idiv hx hb dL_isThere_52 (by decide) ?_
            refine top_i (y := (nI (k9 / 2))) (pk_div (a := k9) (d := 2) (by omega) (by decide) (by decide)) ?_
            refine lv_iadd hx hb dL_isThere_53 ?_
            refine top_i (y := (nI (lc + (k9 / 2)))) (nI_add lc (k9 / 2)) ?_
            refine lv_iload hx hb dL_isThere_54 (lv_at hl 3 rfl) ?_
            refine lv_iload hx hb dL_isThere_56 (lv_at hl 0 rfl) ?_
            refine lv_iload_n hx hb dL_isThere_58 rfl (lv_at hl 4 rfl) ?_
            refine lv_iconst (v := 0) hx hb dL_isThere_59 (by decide) ?_
            refine cB_i hJ.hd CF hK hN hA hS hP hD (b_ifLeapt l D cI cZ cW cJ A X xo S u_25 (lc + (k9 / 2)) lr 1 ru 0 (by omega) (by omega) (by decide) (by omega) (by decide) hJ) (cwV 5 hts gL_isThere_X8_ifLeapt rfl rfl rfl (by decide +kernel) ⟨Nat.le_of_ble_eq_true rfl, Nat.le_of_ble_eq_true rfl⟩) (As := [.int (nI (lc + (k9 / 2))), .int (nI lr), .int 1, .int (nI ru), .int 0]) (rest := []) rfl hl.1 rfl (Nat.le_of_ble_eq_true rfl) dL_isThere_60 ⟨Nat.le_of_ble_eq_true rfl, Nat.le_of_ble_eq_true rfl⟩ (fun r_60 u_60 H locs hq hP hD hS => ?_)
            obtain ⟨hrv, hJ⟩ := hq
            subst hrv
            refine top_i (y := (-1)) eA ?_
            refine lv_istore (lv' := [(8, .int (-1)), (7, .int 1), (6, .int (nI k9)), (5, .int (nI lc)), (4, .int (nI lr)), (3, .int (nI ru)), (2, .int (nI xt)), (1, .int (nI xf)), (0, .ref xo)]) hx hb dL_isThere_63 hl (by decide) rfl (fun ls hl => ?_)
            refine lv_iload hx hb dL_isThere_65 (lv_at hl 0 rfl) ?_
            have c_67 : ((-1) : Int32) < 0 := by decide
            refine lv_if_lt (tgt := 100) hx hb dL_isThere_67 (by decide) (fun _ => ?_) (fun q => absurd c_67 q)
            refine lv_iinc (v := (nI (k9 + 1))) (lv' := [(6, .int (nI (k9 + 1))), (8, .int (-1)), (7, .int 1), (5, .int (nI lc)), (4, .int (nI lr)), (3, .int (nI ru)), (2, .int (nI xt)), (1, .int (nI xf)), (0, .ref xo)]) hx hb dL_isThere_100 hl (k := 2) rfl (nI_1 k9) (by decide) rfl (fun ls hl => ?_)
            refine lv_goto (tgt := 19) hx hb dL_isThere_103 (by decide) ?_
            exact ih_19 (k9 + 1) u_60 (by omega) (by omega) (no_ext (P := fun j => EvH S lr lc ru xf xt j) hno hnk) (hJ) _ _ (hP) (hD) hS _ (lv_sub hl [0, 3, 4, 5, 6, 7, 8] rfl)
          · skip
            refine lv_aload_n hx hb dL_isThere_46 rfl (lv_at hl 7 rfl) ?_
            refine lv_iload hx hb dL_isThere_47 (lv_at hl 2 rfl) ?_
            refine lv_iload hx hb dL_isThere_49 (lv_at hl 1 rfl) ?_
            refine lv_iconst (v := 2) hx hb dL_isThere_51 (by decide) ?_
            refine lv_idiv hx hb dL_isThere_52 (by decide) ?_
            refine top_i (y := (nI (k9 / 2))) (pk_div (a := k9) (d := 2) (by omega) (by decide) (by decide)) ?_
            refine lv_iadd hx hb dL_isThere_53 ?_
            refine top_i (y := (nI (lc + (k9 / 2)))) (nI_add lc (k9 / 2)) ?_
            refine lv_iload hx hb dL_isThere_54 (lv_at hl 3 rfl) ?_
            refine lv_iload hx hb dL_isThere_56 (lv_at hl 0 rfl) ?_
            refine lv_iload_n hx hb dL_isThere_58 rfl (lv_at hl 4 rfl) ?_
            refine lv_iconst (v := 0) hx hb dL_isThere_59 (by decide) ?_
            refine cB_i hJ.hd CF hK hN hA hS hP hD (b_ifLeapt l D cI cZ cW cJ A X xo S u_25 (lc + (k9 / 2)) lr 1 ru 0 (by omega) (by omega) (by decide) (by omega) (by decide) hJ) (cwV 5 hts gL_isThere_X8_ifLeapt rfl rfl rfl (by decide +kernel) ⟨Nat.le_of_ble_eq_true rfl, Nat.le_of_ble_eq_true rfl⟩) (As := [.int (nI (lc + (k9 / 2))), .int (nI lr), .int 1, .int (nI ru), .int 0]) (rest := []) rfl hl.1 rfl (Nat.le_of_ble_eq_true rfl) dL_isThere_60 ⟨Nat.le_of_ble_eq_true rfl, Nat.le_of_ble_eq_true rfl⟩ (fun r_60 u_60 H locs hq hP hD hS => ?_)
            obtain ⟨hrv, hJ⟩ := hq
            subst hrv
            refine top_i (y := (nI tc)) eB0 ?_
            refine lv_istore (lv' := [(8, .int (nI tc)), (7, .int 1), (6, .int (nI k9)), (5, .int (nI lc)), (4, .int (nI lr)), (3, .int (nI ru)), (2, .int (nI xt)), (1, .int (nI xf)), (0, .ref xo)]) hx hb dL_isThere_63 hl (by decide) rfl (fun ls hl => ?_)
            refine lv_iload hx hb dL_isThere_65 (lv_at hl 0 rfl) ?_
            have c_67 : ¬ ((nI tc) : Int32) < 0 := nI_pos (by omega)
            refine lv_if_lt (tgt := 100) hx hb dL_isThere_67 (by decide) (fun q => absurd q c_67) (fun _ => ?_)
            refine lv_aload_n hx hb dL_isThere_70 rfl (lv_at hl 8 rfl) ?_
            refine lv_iload hx hb dL_isThere_71 (lv_at hl 0 rfl) ?_
            refine lv_aload_n hx hb dL_isThere_73 rfl (lv_at hl 8 rfl) ?_
            refine lv_iload hx hb dL_isThere_74 (lv_at hl 3 rfl) ?_
            refine lv_iload hx hb dL_isThere_76 (lv_at hl 2 rfl) ?_
            refine lv_iconst (v := 2) hx hb dL_isThere_78 (by decide) ?_
            refine lv_idiv hx hb dL_isThere_79 (by decide) ?_
            refine top_i (y := (nI (k9 / 2))) (pk_div (a := k9) (d := 2) (by omega) (by decide) (by decide)) ?_
            refine lv_iadd hx hb dL_isThere_80 ?_
            refine top_i (y := (nI (lc + (k9 / 2)))) (nI_add lc (k9 / 2)) ?_
            refine lv_iload hx hb dL_isThere_81 (lv_at hl 4 rfl) ?_
            refine lv_iload hx hb dL_isThere_83 (lv_at hl 1 rfl) ?_
            refine lv_iload_n hx hb dL_isThere_85 rfl (lv_at hl 5 rfl) ?_
            refine lv_iconst (v := 1) hx hb dL_isThere_86 (by decide) ?_
            refine cB_i hJ.hd CF hK hN hA hS hP hD (b_ifLeapt l D cI cZ cW cJ A X xo S u_60 (lc + (k9 / 2)) lr 1 ru 1 (by omega) (by omega) (by decide) (by omega) (by decide) hJ) (cwV 5 hts gL_isThere_X8_ifLeapt rfl rfl rfl (by decide +kernel) ⟨Nat.le_of_ble_eq_true rfl, Nat.le_of_ble_eq_true rfl⟩) (As := [.int (nI (lc + (k9 / 2))), .int (nI lr), .int 1, .int (nI ru), .int 1]) (rest := [.int (nI tc), .ref xo]) rfl hl.1 rfl (Nat.le_of_ble_eq_true rfl) dL_isThere_87 ⟨Nat.le_of_ble_eq_true rfl, Nat.le_of_ble_eq_true rfl⟩ (fun r_87 u_87 H locs hq hP hD hS => ?_)
            obtain ⟨hrv, hJ⟩ := hq
            subst hrv
            refine top_i (y := (nI tr)) eB1 ?_
            refine lv_iconst (v := 2) hx hb dL_isThere_90 (by decide) ?_
            refine cB_i hJ.hd CF hK hN hA hS hP hD (b_cellOf l D cI cZ cW cJ A X xo S u_87 tc tr 2 (by omega) (by omega) (by decide) hJ) (cwV 3 hts gL_isThere_X8_cellOf rfl rfl rfl (by decide +kernel) ⟨Nat.le_of_ble_eq_true rfl, Nat.le_of_ble_eq_true rfl⟩) (As := [.int (nI tc), .int (nI tr), .int 2]) (rest := []) rfl hl.1 rfl (Nat.le_of_ble_eq_true rfl) dL_isThere_91 ⟨Nat.le_of_ble_eq_true rfl, Nat.le_of_ble_eq_true rfl⟩ (fun r_91 u_91 H locs hq hP hD hS => ?_)
            obtain ⟨hrv, hJ⟩ := hq
            subst hrv
            refine top_i (y := (nI it)) eB2 ?_
            refine lv_iload_n hx hb dL_isThere_94 rfl (lv_at hl 6 rfl) ?_
            by_cases hq9 : it = xt
            · have hyk : EvH S lr lc ru xf xt k9 := by show Ev _ _ _ _ _ (sgn k9) _ _; rw [hsg]; exact yB hq9
              have c_95 : ((nI it) : Int32) = (nI xt) := congrArg nI hq9
              refine lv_icmp_ne (tgt := 100) hx hb dL_isThere_95 (by decide) (fun q => absurd c_95 q) (fun _ => ?_)
              refine lv_iconst (v := 1) hx hb dL_isThere_98 (by decide) ?_
              exact W.zret (v := 1) (ty := .boolean) hx hb hr (rfl) (fun t9 ht9 hW9 => ⟨⟨1, (u_91, true), rfl, ⟨rfl, ⟨fun _ => (there_all hf htx hlc hlr hA1 hA2).mpr ⟨k9, hk9, hyk⟩, fun _ => rfl⟩, hJ⟩, by rw [ht9]; exact hP, hD⟩, hS.F ht9⟩) hS.2.2 dL_isThere_99
            · have hnk : ¬ EvH S lr lc ru xf xt k9 := by show ¬ Ev _ _ _ _ _ (sgn k9) _ _; rw [hsg]; exact nB hq9
              have c_95 : ¬ ((nI it) : Int32) = (nI xt) := nI_nee (by omega) (by omega) hq9
              refine lv_icmp_ne (tgt := 100) hx hb dL_isThere_95 (by decide) (fun _ => ?_) (fun q => absurd q c_95)
              refine lv_iinc (v := (nI (k9 + 1))) (lv' := [(6, .int (nI (k9 + 1))), (8, .int (nI tc)), (7, .int 1), (5, .int (nI lc)), (4, .int (nI lr)), (3, .int (nI ru)), (2, .int (nI xt)), (1, .int (nI xf)), (0, .ref xo)]) hx hb dL_isThere_100 hl (k := 2) rfl (nI_1 k9) (by decide) rfl (fun ls hl => ?_)
              refine lv_goto (tgt := 19) hx hb dL_isThere_103 (by decide) ?_
              exact ih_19 (k9 + 1) u_91 (by omega) (by omega) (no_ext (P := fun j => EvH S lr lc ru xf xt j) hno hnk) (hJ) _ _ (hP) (hD) hS _ (lv_sub hl [0, 3, 4, 5, 6, 7, 8] rfl)
  exact loop_19 _ 0 u_11 (Nat.lt_succ_self _) (Nat.zero_le _) (fun j hj => absurd hj (Nat.not_lt_zero _)) (hJ) _ _ hP hD hS _ (lv_sub hl [0, 1, 2, 6, 5, 4, 3] rfl)
set_option maxHeartbeats 4000000 in
set_option maxRecDepth 100000 in
theorem l_isPair (l : Launch) (D : va_G) (cI cZ cW cJ : ClassId) (A : Nat → Prop) (X : va_W) (xo : Nat) (S : KS) (XB : va_W) (xf xt xb : Nat) (hJ : YJ cI cZ cW xo S XB) (hf : xf < nS S) (htx : xt < nS S) (hb9 : xb < nS S) : Met l yL_isPair wsL_isPair ({ frames := 8, cells := 0, slots := 0, locals := 195 }) (va_Pc [.ref xo, .int (nI xf), .int (nI xt), .int (nI xb)] (wd D (tyL cI cZ cW cJ) A ((X ++ XB)))) (va_Qi (fun (r : Int32) (u : va_W) => r = 1 ∧ YJ cI cZ cW xo S u) (fun (u : va_W) t => wq D A ((X ++ u)) t) A) 0 0 A := by
  refine Met.ofW (cc := cL_isPair) (maxL := 11) (ret := (some .boolean)) (by decide) rfl ?_
  intro p e s m args below meth c s₁ B hml hv
  obtain ⟨rfl, hsz9, hP, hK, hD, hN⟩ := hv
  have hx := B.exec
  have hb := B.bytes
  have hr := B.returns
  have hts := atoms_spec (ws := wsL_isPair) B.pre
  have hown : s.vm.findClass RL = some m.cls := findClass_of_methodNamed B.named
  have hlocks := B.notSynchronized
  have CF : CallFix p m c cL_isPair 11 s _ wsL_isPair RL := ⟨hx, hb, hml, hown, hts⟩
  have hA : ∀ q : Nat, s.heap.size ≤ q → A q := hsz9
  have hS : va_S A s.heap s.heap [] := va_S.rf
  have hl := lv_entry ([.ref xo, .int (nI xf), .int (nI xt), .int (nI xb)]) (n := 11) (Nat.le_of_ble_eq_true rfl)
  rw [lg_entry_eq]
  generalize (lg_sl ([.ref xo, .int (nI xf), .int (nI xt), .int (nI xb)]) ++ List.replicate (11 - (lg_sl ([.ref xo, .int (nI xf), .int (nI xt), .int (nI xb)])).length) Slot.unset).toArray = ls at hl ⊢
  have hl : lv_has ls 11 [(0, .ref xo), (1, .int (nI xf)), (2, .int (nI xt)), (3, .int (nI xb))] := hl
  show W p l e ({ frames := 8, cells := 0, slots := 0, locals := 195 } : Room) s m (([.ref xo, .int (nI xf), .int (nI xt), .int (nI xb)] : List Value).toArray) below meth c s.heap [] 0 0 (MQ below (va_Qi (fun (r : Int32) (u : va_W) => r = 1 ∧ YJ cI cZ cW xo S u) (fun (u : va_W) t => wq D A ((X ++ u)) t) A) (([.ref xo, .int (nI xf), .int (nI xt), .int (nI xb)] : List Value).toArray) s 0 0 A) (F0 m 0 ls [])
  have hn9 : nS S ≤ 100 := nL_le _
  refine lv_aload_n hx hb dL_isPair_0 rfl (lv_at hl 0 rfl) ?_
  refine lv_iload_n hx hb dL_isPair_1 rfl (lv_at hl 1 rfl) ?_
  refine lv_iload_n hx hb dL_isPair_2 rfl (lv_at hl 2 rfl) ?_
  refine cB_i hJ.hd CF hK hN hA hS hP hD (b_slowest l D cI cZ cW cJ A X xo S XB xf xt (by omega) (by omega) hJ) (cwV 2 hts gL_isPair_X8_slowest rfl rfl rfl (by decide +kernel) ⟨Nat.le_of_ble_eq_true rfl, Nat.le_of_ble_eq_true rfl⟩) (As := [.int (nI xf), .int (nI xt)]) (rest := []) rfl hl.1 rfl (Nat.le_of_ble_eq_true rfl) dL_isPair_3 ⟨Nat.le_of_ble_eq_true rfl, Nat.le_of_ble_eq_true rfl⟩ (fun r_3 u_3 H locs hq hP hD hS => ?_)
  obtain ⟨hrv, hJ⟩ := hq
  subst hrv
  refine lv_istore (lv' := [(4, .int (slowS S xf xt)), (0, .ref xo), (1, .int (nI xf)), (2, .int (nI xt)), (3, .int (nI xb))]) hx hb dL_isPair_6 hl (by decide) rfl (fun ls hl => ?_)
  refine lv_bipush (v := 100) hx hb dL_isPair_8 (by decide) ?_
  refine lv_istore (lv' := [(5, .int 100), (4, .int (slowS S xf xt)), (0, .ref xo), (1, .int (nI xf)), (2, .int (nI xt)), (3, .int (nI xb))]) hx hb dL_isPair_10 hl (by decide) rfl (fun ls hl => ?_)
  refine lv_iconst (v := 0) hx hb dL_isPair_12 (by decide) ?_
  refine lv_istore (lv' := [(6, .int 0), (5, .int 100), (4, .int (slowS S xf xt)), (0, .ref xo), (1, .int (nI xf)), (2, .int (nI xt)), (3, .int (nI xb))]) hx hb dL_isPair_13 hl (by decide) rfl (fun ls hl => ?_)
  have loop_15 : ∀ (nfu : Nat) (ru : Nat) (lv : Int32) (XB9 : va_W) (hn_15 : 4 - ru < nfu) (hru : ru ≤ 4) (hla : (lv = 100 ∧ ∀ v, v < ru → dS S v xf xt = -1) ∨ (∃ lm, lm < 100 ∧ lv = nI lm ∧ ∃ v, v < ru ∧ dS S v xf xt = nI lm)) (hJ : YJ cI cZ cW xo S XB9) (H : Heap) (locs : List Loc) (hP : va_P D vwCl ((X ++ XB9)) H) (hD : va_D A ((X ++ XB9))) (hS : va_S A s.heap H locs) (ls : Array Slot) (hl : lv_has ls 11 [(6, .int (nI ru)), (5, .int lv), (4, .int (slowS S xf xt)), (3, .int (nI xb)), (2, .int (nI xt)), (1, .int (nI xf)), (0, .ref xo)]), W p l e ({ frames := 8, cells := 0, slots := 0, locals := 195 } : Room) s m (([.ref xo, .int (nI xf), .int (nI xt), .int (nI xb)] : List Value).toArray) below meth c H locs 0 0 (MQ below (va_Qi (fun (r : Int32) (u : va_W) => r = 1 ∧ YJ cI cZ cW xo S u) (fun (u : va_W) t => wq D A ((X ++ u)) t) A) (([.ref xo, .int (nI xf), .int (nI xt), .int (nI xb)] : List Value).toArray) s 0 0 A) (F0 m 15 ls []) := by
    intro nfu
    induction nfu with
    | zero => intro ru lv XB9 hn_15; exact absurd hn_15 (Nat.not_lt_zero _)
    | succ nfu ih_15 =>
      intro ru lv XB9 hn_15 hru hla hJ H locs hP hD hS ls hl
      refine lv_iload hx hb dL_isPair_15 (lv_at hl 0 rfl) ?_
      refine lv_iconst (v := 4) hx hb dL_isPair_17 (by decide) ?_
      refine lv_icmp_ge (tgt := 220) hx hb dL_isPair_18 (by decide) (fun c_18 => ?_) (fun c_18 => ?_)
      · refine lv_iconst (v := 0) hx hb dL_isPair_220 (by decide) ?_
        refine lv_istore (lv' := [(6, .int 0), (5, .int lv), (4, .int (slowS S xf xt)), (3, .int (nI xb)), (2, .int (nI xt)), (1, .int (nI xf)), (0, .ref xo)]) hx hb dL_isPair_221 hl (by decide) rfl (fun ls hl => ?_)
        have loop_223 : ∀ (nfu : Nat) (rv : Nat) (XB8 : va_W) (hn_223 : 4 - rv < nfu) (hrv4 : rv ≤ 4) (hJ : YJ cI cZ cW xo S XB8) (H : Heap) (locs : List Loc) (hP : va_P D vwCl ((X ++ XB8)) H) (hD : va_D A ((X ++ XB8))) (hS : va_S A s.heap H locs) (ls : Array Slot) (hl : lv_has ls 11 [(6, .int (nI rv)), (4, .int (slowS S xf xt)), (2, .int (nI xt)), (1, .int (nI xf)), (0, .ref xo)]), W p l e ({ frames := 8, cells := 0, slots := 0, locals := 195 } : Room) s m (([.ref xo, .int (nI xf), .int (nI xt), .int (nI xb)] : List Value).toArray) below meth c H locs 0 0 (MQ below (va_Qi (fun (r : Int32) (u : va_W) => r = 1 ∧ YJ cI cZ cW xo S u) (fun (u : va_W) t => wq D A ((X ++ u)) t) A) (([.ref xo, .int (nI xf), .int (nI xt), .int (nI xb)] : List Value).toArray) s 0 0 A) (F0 m 223 ls []) := by
          intro nfu
          induction nfu with
          | zero => intro rv XB8 hn_223; exact absurd hn_223 (Nat.not_lt_zero _)
          | succ nfu ih_223 =>
            intro rv XB8 hn_223 hrv4 hJ H locs hP hD hS ls hl
            refine lv_iload hx hb dL_isPair_223 (lv_at hl 0 rfl) ?_
            refine lv_iconst (v := 4) hx hb dL_isPair_225 (by decide) ?_
            refine lv_icmp_ge (tgt := 279) hx hb dL_isPair_226 (by decide) (fun c_226 => ?_) (fun c_226 => ?_)
            · refine lv_iconst (v := 1) hx hb dL_isPair_279 (by decide) ?_
              exact W.zret (v := 1) (ty := .boolean) hx hb hr (rfl) (fun t9 ht9 hW9 => ⟨⟨1, XB8, rfl, ⟨rfl, hJ⟩, by rw [ht9]; exact hP, hD⟩, hS.F ht9⟩) hS.2.2 dL_isPair_280
            · have hrv3 : rv < 4 := lt_of_nge (a := 4) (b := rv) (by decide) (by omega) c_226
              refine lv_aload_n hx hb dL_isPair_229 rfl (lv_at hl 4 rfl) ?_
              refine lv_iload_n hx hb dL_isPair_230 rfl (lv_at hl 3 rfl) ?_
              refine lv_iload_n hx hb dL_isPair_231 rfl (lv_at hl 2 rfl) ?_
              refine lv_iload hx hb dL_isPair_232 (lv_at hl 0 rfl) ?_
              refine cS_i CF hK hN hA hS (cut_id hP hD) (l_isThere l D cI cZ cW cJ A X xo S XB8 xf xt rv hJ hf htx (by omega)) (va_cwS 4 hts gL_isPair_L_isThere rfl rfl rfl (by decide +kernel) ⟨Nat.le_of_ble_eq_true rfl, Nat.le_of_ble_eq_true rfl⟩) (As := [.ref xo, .int (nI xf), .int (nI xt), .int (nI rv)]) (rest := []) rfl hl.1 rfl (Nat.le_of_ble_eq_true rfl) dL_isPair_234 ⟨Nat.le_of_ble_eq_true rfl, Nat.le_of_ble_eq_true rfl⟩ (fun r_234 u_234 H locs hq hP hD hS => ?_)
              obtain ⟨hrv, hev, hJ⟩ := hq
              subst hrv
              have hP : va_P D vwCl ((X ++ u_234.1)) H := hP
              have hD : va_D A ((X ++ u_234.1)) := hD
              refine lv_istore (lv' := [(7, .int (bI u_234.2)), (6, .int (nI rv)), (4, .int (slowS S xf xt)), (2, .int (nI xt)), (1, .int (nI xf)), (0, .ref xo)]) hx hb dL_isPair_237 hl (by decide) rfl (fun ls hl => ?_)
              rcases slow_spec S xf xt with ⟨es, hz⟩ | ⟨sl, hsl, es, hz1, hz2⟩
              · have hbf : u_234.2 = false := by cases h : u_234.2 with | false => rfl | true => exact absurd (hev.mp h) (hz rv)
                refine lv_iload hx hb dL_isPair_239 (lv_at hl 1 rfl) ?_
                refine lv_iload hx hb dL_isPair_241 (lv_at hl 2 rfl) ?_
                refine top_i (y := (-1)) es ?_
                have c_243 : ¬ ((nI rv) : Int32) = (-1) := nI_ne_m1 (by omega)
                refine lv_icmp_ne (tgt := 254) hx hb dL_isPair_243 (by decide) (fun _ => ?_) (fun q => absurd q c_243)
                refine lv_iload hx hb dL_isPair_254 (lv_at hl 0 rfl) ?_
                refine top_i (y := 0) (by rw [hbf]; rfl) ?_
                have c_256 : (0 : Int32) = 0 := rfl
                refine lv_if_eq (tgt := 273) hx hb dL_isPair_256 (by decide) (fun _ => ?_) (fun q => absurd c_256 q)
                refine lv_iinc (v := (nI (rv + 1))) (lv' := [(6, .int (nI (rv + 1))), (7, .int (bI u_234.2)), (4, .int (slowS S xf xt)), (2, .int (nI xt)), (1, .int (nI xf)), (0, .ref xo)]) hx hb dL_isPair_273 hl (k := 1) rfl (nI_1 rv) (by decide) rfl (fun ls hl => ?_)
                refine lv_goto (tgt := 223) hx hb dL_isPair_276 (by decide) ?_
                exact ih_223 (rv + 1) u_234.1 (by omega) (by omega) (hJ) _ _ (hP) (hD) hS _ (lv_sub hl [0, 2, 3, 4, 5] rfl)
              · skip
                refine lv_iload hx hb dL_isPair_239 (lv_at hl 1 rfl) ?_
                rcases (show rv = sl ∨ rv < sl ∨ sl < rv by omega) with hcmp | hcmp | hcmp
                · have hbt : u_234.2 = true := hev.mpr (by rw [hcmp]; exact hz1)
                  refine lv_iload hx hb dL_isPair_241 (lv_at hl 2 rfl) ?_
                  refine top_i (y := (nI sl)) es ?_
                  have c_243 : ((nI rv) : Int32) = (nI sl) := congrArg nI hcmp
                  refine lv_icmp_ne (tgt := 254) hx hb dL_isPair_243 (by decide) (fun q => absurd c_243 q) (fun _ => ?_)
                  refine lv_iload hx hb dL_isPair_246 (lv_at hl 0 rfl) ?_
                  refine top_i (y := 1) (by rw [hbt]; rfl) ?_
                  have c_248 : ¬ (1 : Int32) = 0 := by decide
                  refine lv_if_ne (tgt := 273) hx hb dL_isPair_248 (by decide) (fun _ => ?_) (fun q => absurd q c_248)
                  refine lv_iinc (v := (nI (rv + 1))) (lv' := [(6, .int (nI (rv + 1))), (7, .int (bI u_234.2)), (4, .int (slowS S xf xt)), (2, .int (nI xt)), (1, .int (nI xf)), (0, .ref xo)]) hx hb dL_isPair_273 hl (k := 1) rfl (nI_1 rv) (by decide) rfl (fun ls hl => ?_)
                  refine lv_goto (tgt := 223) hx hb dL_isPair_276 (by decide) ?_
                  exact ih_223 (rv + 1) u_234.1 (by omega) (by omega) (hJ) _ _ (hP) (hD) hS _ (lv_sub hl [0, 2, 3, 4, 5] rfl)
                · have hbf : u_234.2 = false := by cases h : u_234.2 with | false => rfl | true => exact absurd (hz2 rv (hev.mp h)) (by omega)
                  refine lv_iload hx hb dL_isPair_241 (lv_at hl 2 rfl) ?_
                  refine top_i (y := (nI sl)) es ?_
                  have c_243 : ¬ ((nI rv) : Int32) = (nI sl) := nI_nee (by omega) (by omega) (by omega)
                  refine lv_icmp_ne (tgt := 254) hx hb dL_isPair_243 (by decide) (fun _ => ?_) (fun q => absurd q c_243)
                  refine lv_iload hx hb dL_isPair_254 (lv_at hl 0 rfl) ?_
                  refine top_i (y := 0) (by rw [hbf]; rfl) ?_
                  have c_256 : (0 : Int32) = 0 := rfl
                  refine lv_if_eq (tgt := 273) hx hb dL_isPair_256 (by decide) (fun _ => ?_) (fun q => absurd c_256 q)
                  refine lv_iinc (v := (nI (rv + 1))) (lv' := [(6, .int (nI (rv + 1))), (7, .int (bI u_234.2)), (4, .int (slowS S xf xt)), (2, .int (nI xt)), (1, .int (nI xf)), (0, .ref xo)]) hx hb dL_isPair_273 hl (k := 1) rfl (nI_1 rv) (by decide) rfl (fun ls hl => ?_)
                  refine lv_goto (tgt := 223) hx hb dL_isPair_276 (by decide) ?_
                  exact ih_223 (rv + 1) u_234.1 (by omega) (by omega) (hJ) _ _ (hP) (hD) hS _ (lv_sub hl [0, 2, 3, 4, 5] rfl)
                · skip
                  refine lv_iload hx hb dL_isPair_241 (lv_at hl 2 rfl) ?_
                  refine top_i (y := (nI sl)) es ?_
                  have c_243 : ¬ ((nI rv) : Int32) = (nI sl) := nI_nee (by omega) (by omega) (by omega)
                  refine lv_icmp_ne (tgt := 254) hx hb dL_isPair_243 (by decide) (fun _ => ?_) (fun q => absurd q c_243)
                  refine lv_iload hx hb dL_isPair_254 (lv_at hl 0 rfl) ?_
                  refine lv_if_eq (tgt := 273) hx hb dL_isPair_256 (by decide) (fun c_256 => ?_) (fun c_256 => ?_)
                  · refine lv_iinc (v := (nI (rv + 1))) (lv' := [(6, .int (nI (rv + 1))), (7, .int (bI u_234.2)), (4, .int (slowS S xf xt)), (2, .int (nI xt)), (1, .int (nI xf)), (0, .ref xo)]) hx hb dL_isPair_273 hl (k := 1) rfl (nI_1 rv) (by decide) rfl (fun ls hl => ?_)
                    refine lv_goto (tgt := 223) hx hb dL_isPair_276 (by decide) ?_
                    exact ih_223 (rv + 1) u_234.1 (by omega) (by omega) (hJ) _ _ (hP) (hD) hS _ (lv_sub hl [0, 2, 3, 4, 5] rfl)
                  · refine lv_iload hx hb dL_isPair_259 (lv_at hl 2 rfl) ?_
                    refine top_i (y := (nI sl)) es ?_
                    have c_261 : ¬ ((nI sl) : Int32) < 0 := nI_pos (by omega)
                    refine lv_if_lt (tgt := 271) hx hb dL_isPair_261 (by decide) (fun q => absurd q c_261) (fun _ => ?_)
                    refine lv_iload hx hb dL_isPair_264 (lv_at hl 1 rfl) ?_
                    refine lv_iload hx hb dL_isPair_266 (lv_at hl 2 rfl) ?_
                    refine top_i (y := (nI sl)) es ?_
                    have c_268 : ((nI sl) : Int32) ≤ (nI rv) := nI_let (by omega) (by omega) (by omega)
                    refine lv_icmp_ge (tgt := 273) hx hb dL_isPair_268 (by decide) (fun _ => ?_) (fun q => absurd c_268 q)
                    refine lv_iinc (v := (nI (rv + 1))) (lv' := [(6, .int (nI (rv + 1))), (7, .int (bI u_234.2)), (4, .int (slowS S xf xt)), (2, .int (nI xt)), (1, .int (nI xf)), (0, .ref xo)]) hx hb dL_isPair_273 hl (k := 1) rfl (nI_1 rv) (by decide) rfl (fun ls hl => ?_)
                    refine lv_goto (tgt := 223) hx hb dL_isPair_276 (by decide) ?_
                    exact ih_223 (rv + 1) u_234.1 (by omega) (by omega) (hJ) _ _ (hP) (hD) hS _ (lv_sub hl [0, 2, 3, 4, 5] rfl)
        exact loop_223 _ 0 XB9 (Nat.lt_succ_self _) (by omega) (hJ) _ _ hP hD hS _ (lv_sub hl [0, 2, 4, 5, 6] rfl)
      · have hru3 : ru < 4 := lt_of_nge (a := 4) (b := ru) (by decide) (by omega) c_18
        refine lv_aload_n hx hb dL_isPair_21 rfl (lv_at hl 6 rfl) ?_
        refine lv_iload_n hx hb dL_isPair_22 rfl (lv_at hl 5 rfl) ?_
        refine lv_iload_n hx hb dL_isPair_23 rfl (lv_at hl 4 rfl) ?_
        refine lv_iload hx hb dL_isPair_24 (lv_at hl 0 rfl) ?_
        refine lv_iconst (v := 0) hx hb dL_isPair_26 (by decide) ?_
        refine cB_i hJ.hd CF hK hN hA hS hP hD (b_fewest l D cI cZ cW cJ A X xo S XB9 xf xt ru 0 (by omega) (by omega) (by omega) (by decide) hJ) (cwV 4 hts gL_isPair_X8_fewest rfl rfl rfl (by decide +kernel) ⟨Nat.le_of_ble_eq_true rfl, Nat.le_of_ble_eq_true rfl⟩) (As := [.int (nI xf), .int (nI xt), .int (nI ru), .int 0]) (rest := []) rfl hl.1 rfl (Nat.le_of_ble_eq_true rfl) dL_isPair_27 ⟨Nat.le_of_ble_eq_true rfl, Nat.le_of_ble_eq_true rfl⟩ (fun r_27 u_27 H locs hq hP hD hS => ?_)
        obtain ⟨hrv, hJ⟩ := hq
        subst hrv
        refine lv_istore (lv' := [(7, .int (dS S ru xf xt)), (6, .int (nI ru)), (5, .int lv), (4, .int (slowS S xf xt)), (3, .int (nI xb)), (2, .int (nI xt)), (1, .int (nI xf)), (0, .ref xo)]) hx hb dL_isPair_30 hl (by decide) rfl (fun ls hl => ?_)
        refine lv_aload_n hx hb dL_isPair_32 rfl (lv_at hl 7 rfl) ?_
        refine lv_iload_n hx hb dL_isPair_33 rfl (lv_at hl 6 rfl) ?_
        refine lv_iload_n hx hb dL_isPair_34 rfl (lv_at hl 4 rfl) ?_
        refine lv_iload hx hb dL_isPair_35 (lv_at hl 1 rfl) ?_
        refine lv_iconst (v := 0) hx hb dL_isPair_37 (by decide) ?_
        refine cB_i hJ.hd CF hK hN hA hS hP hD (b_fewest l D cI cZ cW cJ A X xo S u_27 xf xb ru 0 (by omega) (by omega) (by omega) (by decide) hJ) (cwV 4 hts gL_isPair_X8_fewest rfl rfl rfl (by decide +kernel) ⟨Nat.le_of_ble_eq_true rfl, Nat.le_of_ble_eq_true rfl⟩) (As := [.int (nI xf), .int (nI xb), .int (nI ru), .int 0]) (rest := []) rfl hl.1 rfl (Nat.le_of_ble_eq_true rfl) dL_isPair_38 ⟨Nat.le_of_ble_eq_true rfl, Nat.le_of_ble_eq_true rfl⟩ (fun r_38 u_38 H locs hq hP hD hS => ?_)
        obtain ⟨hrv, hJ⟩ := hq
        subst hrv
        refine lv_istore (lv' := [(8, .int (dS S ru xf xb)), (7, .int (dS S ru xf xt)), (6, .int (nI ru)), (5, .int lv), (4, .int (slowS S xf xt)), (3, .int (nI xb)), (2, .int (nI xt)), (1, .int (nI xf)), (0, .ref xo)]) hx hb dL_isPair_41 hl (by decide) rfl (fun ls hl => ?_)
        refine lv_aload_n hx hb dL_isPair_43 rfl (lv_at hl 8 rfl) ?_
        refine lv_iload_n hx hb dL_isPair_44 rfl (lv_at hl 5 rfl) ?_
        refine lv_iload_n hx hb dL_isPair_45 rfl (lv_at hl 6 rfl) ?_
        refine lv_iload hx hb dL_isPair_46 (lv_at hl 2 rfl) ?_
        refine lv_iconst (v := 0) hx hb dL_isPair_48 (by decide) ?_
        refine cB_i hJ.hd CF hK hN hA hS hP hD (b_fewest l D cI cZ cW cJ A X xo S u_38 xb xt ru 0 (by omega) (by omega) (by omega) (by decide) hJ) (cwV 4 hts gL_isPair_X8_fewest rfl rfl rfl (by decide +kernel) ⟨Nat.le_of_ble_eq_true rfl, Nat.le_of_ble_eq_true rfl⟩) (As := [.int (nI xb), .int (nI xt), .int (nI ru), .int 0]) (rest := []) rfl hl.1 rfl (Nat.le_of_ble_eq_true rfl) dL_isPair_49 ⟨Nat.le_of_ble_eq_true rfl, Nat.le_of_ble_eq_true rfl⟩ (fun r_49 u_49 H locs hq hP hD hS => ?_)
        obtain ⟨hrv, hJ⟩ := hq
        subst hrv
        refine lv_istore (lv' := [(9, .int (dS S ru xb xt)), (8, .int (dS S ru xf xb)), (7, .int (dS S ru xf xt)), (6, .int (nI ru)), (5, .int lv), (4, .int (slowS S xf xt)), (3, .int (nI xb)), (2, .int (nI xt)), (1, .int (nI xf)), (0, .ref xo)]) hx hb dL_isPair_52 hl (by decide) rfl (fun ls hl => ?_)
        have join_127 : ∀ (XB7 : va_W) (hJ : YJ cI cZ cW xo S XB7) (H : Heap) (locs : List Loc) (hP : va_P D vwCl ((X ++ XB7)) H) (hD : va_D A ((X ++ XB7))) (hS : va_S A s.heap H locs) (ls : Array Slot) (hl : lv_has ls 11 [(9, .int (dS S ru xb xt)), (8, .int (dS S ru xf xb)), (7, .int (dS S ru xf xt)), (6, .int (nI ru)), (5, .int lv), (4, .int (slowS S xf xt)), (3, .int (nI xb)), (2, .int (nI xt)), (1, .int (nI xf)), (0, .ref xo)]), W p l e ({ frames := 8, cells := 0, slots := 0, locals := 195 } : Room) s m (([.ref xo, .int (nI xf), .int (nI xt), .int (nI xb)] : List Value).toArray) below meth c H locs 0 0 (MQ below (va_Qi (fun (r : Int32) (u : va_W) => r = 1 ∧ YJ cI cZ cW xo S u) (fun (u : va_W) t => wq D A ((X ++ u)) t) A) (([.ref xo, .int (nI xf), .int (nI xt), .int (nI xb)] : List Value).toArray) s 0 0 A) (F0 m 127 ls []) := by
          intro XB7 hJ H locs hP hD hS ls hl
          have hcs : (dS S ru xf xt = -1 ∧ dS S ru xf xb = -1) ∨ (∃ m2, m2 < 100 ∧ dS S ru xf xt = -1 ∧ dS S ru xf xb = nI m2 ∧ dS S ru xb xt = -1) ∨ (∃ m1, m1 < nS S ∧ dS S ru xf xt = nI m1 ∧ dS S ru xf xb = -1) ∨ (∃ m1 m2, m1 < nS S ∧ m2 < 100 ∧ dS S ru xf xt = nI m1 ∧ dS S ru xf xb = nI m2 ∧ dS S ru xb xt = -1) ∨ (∃ m1 m2 m3, m1 < nS S ∧ m2 < 100 ∧ m3 < 100 ∧ m1 ≤ m2 + m3 ∧ dS S ru xf xt = nI m1 ∧ dS S ru xf xb = nI m2 ∧ dS S ru xb xt = nI m3) := by
            rcases d_spec (k := ru) hf htx with ⟨e1, -⟩ | ⟨m1, hm1, e1, -⟩ <;> rcases d_spec (k := ru) hf hb9 with ⟨e2, -⟩ | ⟨m2, hm2, e2, -⟩ <;> rcases d_spec (k := ru) hb9 htx with ⟨e3, -⟩ | ⟨m3, hm3, e3, -⟩
            · exact Or.inl ⟨e1, e2⟩
            · exact Or.inl ⟨e1, e2⟩
            · exact Or.inr (Or.inl ⟨m2, by omega, e1, e2, e3⟩)
            · obtain ⟨m8, y1, y2, -⟩ := d_tri hf htx hb9 e2 (by omega) e3 (by omega)
              rw [e1] at y2; exact absurd y2.symm (nI_ne_m1 (by omega))
            · exact Or.inr (Or.inr (Or.inl ⟨m1, hm1, e1, e2⟩))
            · exact Or.inr (Or.inr (Or.inl ⟨m1, hm1, e1, e2⟩))
            · exact Or.inr (Or.inr (Or.inr (Or.inl ⟨m1, m2, hm1, by omega, e1, e2, e3⟩)))
            · obtain ⟨m8, y1, y2, y3⟩ := d_tri hf htx hb9 e2 (by omega) e3 (by omega)
              have y4 := nI_inj (by omega) (by omega) (y2.symm.trans e1)
              exact Or.inr (Or.inr (Or.inr (Or.inr ⟨m1, m2, m3, hm1, by omega, by omega, by omega, e1, e2, e3⟩)))
          rcases hcs with ⟨e1, e2⟩ | ⟨m2, hm2, e1, e2, e3⟩ | ⟨m1, hm1, e1, e2⟩ | ⟨m1, m2, hm1, hm2, e1, e2, e3⟩ | ⟨m1, m2, m3, hm1, hm2, hm3, h123, e1, e2, e3⟩
          · have hlv : lv = 100 := by
              rcases hla with ⟨z, -⟩ | ⟨lm, z1, z2, vv, z3, z4⟩
              · exact z
              · obtain ⟨m8, y1, y2, y3⟩ := d_mono hf htx (show vv ≤ ru by omega) z4 (by omega)
                rw [e1] at y2; exact absurd y2.symm (nI_ne_m1 (by omega))
            have hall : ∀ v, v < ru → dS S v xf xt = -1 := by
              rcases hla with ⟨-, y⟩ | ⟨lm, z1, z2, vv, z3, z4⟩
              · exact y
              · rw [hlv] at z2
                have := nI_inj (a := 100) (b := lm) (by decide) (by omega) z2
                omega
            refine lv_iload hx hb dL_isPair_127 (lv_at hl 2 rfl) ?_
            refine top_i (y := (-1)) e1 ?_
            refine lv_aload_n hx hb dL_isPair_129 rfl (lv_at hl 9 rfl) ?_
            refine lv_iconst (v := 1) hx hb dL_isPair_130 (by decide) ?_
            refine cB_i hJ.hd CF hK hN hA hS hP hD (b_count l D cI cZ cW cJ A X xo S XB7 1 (by decide) hJ) (cwV 1 hts gL_isPair_X8_count rfl rfl rfl (by decide +kernel) ⟨Nat.le_of_ble_eq_true rfl, Nat.le_of_ble_eq_true rfl⟩) (As := [.int 1]) (rest := [.int (-1)]) rfl hl.1 rfl (Nat.le_of_ble_eq_true rfl) dL_isPair_131 ⟨Nat.le_of_ble_eq_true rfl, Nat.le_of_ble_eq_true rfl⟩ (fun r_131 u_131 H locs hq hP hD hS => ?_)
            obtain ⟨hrv, hJ⟩ := hq
            subst hrv
            refine top_i (y := (nI (nS S))) rfl ?_
            have c_134 : ¬ ((nI (nS S)) : Int32) ≤ (-1) := gem1 (by omega)
            refine lv_icmp_ge (tgt := 190) hx hb dL_isPair_134 (by decide) (fun q => absurd q c_134) (fun _ => ?_)
            refine lv_iload hx hb dL_isPair_137 (lv_at hl 2 rfl) ?_
            refine top_i (y := (-1)) e1 ?_
            have c_139 : ¬ (0 : Int32) ≤ (-1) := by decide
            refine lv_if_ge (tgt := 149) hx hb dL_isPair_139 (by decide) (fun q => absurd q c_139) (fun _ => ?_)
            refine lv_iload hx hb dL_isPair_142 (lv_at hl 4 rfl) ?_
            refine lv_bipush (v := 100) hx hb dL_isPair_144 (by decide) ?_
            have c_146 : (lv : Int32) = 100 := hlv
            refine lv_icmp_ne (tgt := 190) hx hb dL_isPair_146 (by decide) (fun q => absurd c_146 q) (fun _ => ?_)
            refine lv_iload hx hb dL_isPair_149 (lv_at hl 2 rfl) ?_
            refine top_i (y := (-1)) e1 ?_
            have c_151 : ((-1) : Int32) < 0 := by decide
            refine lv_if_lt (tgt := 161) hx hb dL_isPair_151 (by decide) (fun _ => ?_) (fun q => absurd c_151 q)
            refine lv_iload hx hb dL_isPair_161 (lv_at hl 1 rfl) ?_
            refine top_i (y := (-1)) e2 ?_
            have c_163 : ((-1) : Int32) < 0 := by decide
            refine lv_if_lt (tgt := 186) hx hb dL_isPair_163 (by decide) (fun _ => ?_) (fun q => absurd c_163 q)
            refine lv_iconst (v := 1) hx hb dL_isPair_186 (by decide) ?_
            refine lv_goto (tgt := 191) hx hb dL_isPair_187 (by decide) ?_
            refine lv_istore (lv' := [(10, .int 1), (9, .int (dS S ru xb xt)), (8, .int (dS S ru xf xb)), (7, .int (dS S ru xf xt)), (6, .int (nI ru)), (5, .int lv), (4, .int (slowS S xf xt)), (3, .int (nI xb)), (2, .int (nI xt)), (1, .int (nI xf)), (0, .ref xo)]) hx hb dL_isPair_191 hl (by decide) rfl (fun ls hl => ?_)
            refine lv_iload hx hb dL_isPair_193 (lv_at hl 0 rfl) ?_
            have c_195 : ¬ (1 : Int32) = 0 := by decide
            refine lv_if_ne (tgt := 200) hx hb dL_isPair_195 (by decide) (fun _ => ?_) (fun q => absurd q c_195)
            refine lv_iload hx hb dL_isPair_200 (lv_at hl 3 rfl) ?_
            refine top_i (y := (-1)) e1 ?_
            have c_202 : ¬ (0 : Int32) ≤ (-1) := by decide
            refine lv_if_ge (tgt := 210) hx hb dL_isPair_202 (by decide) (fun q => absurd q c_202) (fun _ => ?_)
            refine lv_iload hx hb dL_isPair_205 (lv_at hl 5 rfl) ?_
            refine lv_goto (tgt := 212) hx hb dL_isPair_207 (by decide) ?_
            refine lv_istore (lv' := [(5, .int lv), (10, .int 1), (9, .int (dS S ru xb xt)), (8, .int (dS S ru xf xb)), (7, .int (dS S ru xf xt)), (6, .int (nI ru)), (4, .int (slowS S xf xt)), (3, .int (nI xb)), (2, .int (nI xt)), (1, .int (nI xf)), (0, .ref xo)]) hx hb dL_isPair_212 hl (by decide) rfl (fun ls hl => ?_)
            refine lv_iinc (v := (nI (ru + 1))) (lv' := [(6, .int (nI (ru + 1))), (5, .int lv), (10, .int 1), (9, .int (dS S ru xb xt)), (8, .int (dS S ru xf xb)), (7, .int (dS S ru xf xt)), (4, .int (slowS S xf xt)), (3, .int (nI xb)), (2, .int (nI xt)), (1, .int (nI xf)), (0, .ref xo)]) hx hb dL_isPair_214 hl (k := 5) rfl (nI_1 ru) (by decide) rfl (fun ls hl => ?_)
            refine lv_goto (tgt := 15) hx hb dL_isPair_217 (by decide) ?_
            exact ih_15 (ru + 1) lv u_131 (by omega) (by omega) (Or.inl ⟨hlv, all_ext (P := fun v => dS S v xf xt = -1) hall e1⟩) (hJ) _ _ (hP) (hD) hS _ (lv_sub hl [0, 1, 6, 7, 8, 9, 10] rfl)
          · have hlv : lv = 100 := by
              rcases hla with ⟨z, -⟩ | ⟨lm, z1, z2, vv, z3, z4⟩
              · exact z
              · obtain ⟨m8, y1, y2, y3⟩ := d_mono hf htx (show vv ≤ ru by omega) z4 (by omega)
                rw [e1] at y2; exact absurd y2.symm (nI_ne_m1 (by omega))
            have hall : ∀ v, v < ru → dS S v xf xt = -1 := by
              rcases hla with ⟨-, y⟩ | ⟨lm, z1, z2, vv, z3, z4⟩
              · exact y
              · rw [hlv] at z2
                have := nI_inj (a := 100) (b := lm) (by decide) (by omega) z2
                omega
            refine lv_iload hx hb dL_isPair_127 (lv_at hl 2 rfl) ?_
            refine top_i (y := (-1)) e1 ?_
            refine lv_aload_n hx hb dL_isPair_129 rfl (lv_at hl 9 rfl) ?_
            refine lv_iconst (v := 1) hx hb dL_isPair_130 (by decide) ?_
            refine cB_i hJ.hd CF hK hN hA hS hP hD (b_count l D cI cZ cW cJ A X xo S XB7 1 (by decide) hJ) (cwV 1 hts gL_isPair_X8_count rfl rfl rfl (by decide +kernel) ⟨Nat.le_of_ble_eq_true rfl, Nat.le_of_ble_eq_true rfl⟩) (As := [.int 1]) (rest := [.int (-1)]) rfl hl.1 rfl (Nat.le_of_ble_eq_true rfl) dL_isPair_131 ⟨Nat.le_of_ble_eq_true rfl, Nat.le_of_ble_eq_true rfl⟩ (fun r_131 u_131 H locs hq hP hD hS => ?_)
            obtain ⟨hrv, hJ⟩ := hq
            subst hrv
            refine top_i (y := (nI (nS S))) rfl ?_
            have c_134 : ¬ ((nI (nS S)) : Int32) ≤ (-1) := gem1 (by omega)
            refine lv_icmp_ge (tgt := 190) hx hb dL_isPair_134 (by decide) (fun q => absurd q c_134) (fun _ => ?_)
            refine lv_iload hx hb dL_isPair_137 (lv_at hl 2 rfl) ?_
            refine top_i (y := (-1)) e1 ?_
            have c_139 : ¬ (0 : Int32) ≤ (-1) := by decide
            refine lv_if_ge (tgt := 149) hx hb dL_isPair_139 (by decide) (fun q => absurd q c_139) (fun _ => ?_)
            refine lv_iload hx hb dL_isPair_142 (lv_at hl 4 rfl) ?_
            refine lv_bipush (v := 100) hx hb dL_isPair_144 (by decide) ?_
            have c_146 : (lv : Int32) = 100 := hlv
            refine lv_icmp_ne (tgt := 190) hx hb dL_isPair_146 (by decide) (fun q => absurd c_146 q) (fun _ => ?_)
            refine lv_iload hx hb dL_isPair_149 (lv_at hl 2 rfl) ?_
            refine top_i (y := (-1)) e1 ?_
            have c_151 : ((-1) : Int32) < 0 := by decide
            refine lv_if_lt (tgt := 161) hx hb dL_isPair_151 (by decide) (fun _ => ?_) (fun q => absurd c_151 q)
            refine lv_iload hx hb dL_isPair_161 (lv_at hl 1 rfl) ?_
            refine top_i (y := (nI m2)) e2 ?_
            have c_163 : ¬ ((nI m2) : Int32) < 0 := nI_pos (by omega)
            refine lv_if_lt (tgt := 186) hx hb dL_isPair_163 (by decide) (fun q => absurd q c_163) (fun _ => ?_)
            refine lv_iload hx hb dL_isPair_166 (lv_at hl 0 rfl) ?_
            refine top_i (y := (-1)) e3 ?_
            have c_168 : ((-1) : Int32) < 0 := by decide
            refine lv_if_lt (tgt := 186) hx hb dL_isPair_168 (by decide) (fun _ => ?_) (fun q => absurd c_168 q)
            refine lv_iconst (v := 1) hx hb dL_isPair_186 (by decide) ?_
            refine lv_goto (tgt := 191) hx hb dL_isPair_187 (by decide) ?_
            refine lv_istore (lv' := [(10, .int 1), (9, .int (dS S ru xb xt)), (8, .int (dS S ru xf xb)), (7, .int (dS S ru xf xt)), (6, .int (nI ru)), (5, .int lv), (4, .int (slowS S xf xt)), (3, .int (nI xb)), (2, .int (nI xt)), (1, .int (nI xf)), (0, .ref xo)]) hx hb dL_isPair_191 hl (by decide) rfl (fun ls hl => ?_)
            refine lv_iload hx hb dL_isPair_193 (lv_at hl 0 rfl) ?_
            have c_195 : ¬ (1 : Int32) = 0 := by decide
            refine lv_if_ne (tgt := 200) hx hb dL_isPair_195 (by decide) (fun _ => ?_) (fun q => absurd q c_195)
            refine lv_iload hx hb dL_isPair_200 (lv_at hl 3 rfl) ?_
            refine top_i (y := (-1)) e1 ?_
            have c_202 : ¬ (0 : Int32) ≤ (-1) := by decide
            refine lv_if_ge (tgt := 210) hx hb dL_isPair_202 (by decide) (fun q => absurd q c_202) (fun _ => ?_)
            refine lv_iload hx hb dL_isPair_205 (lv_at hl 5 rfl) ?_
            refine lv_goto (tgt := 212) hx hb dL_isPair_207 (by decide) ?_
            refine lv_istore (lv' := [(5, .int lv), (10, .int 1), (9, .int (dS S ru xb xt)), (8, .int (dS S ru xf xb)), (7, .int (dS S ru xf xt)), (6, .int (nI ru)), (4, .int (slowS S xf xt)), (3, .int (nI xb)), (2, .int (nI xt)), (1, .int (nI xf)), (0, .ref xo)]) hx hb dL_isPair_212 hl (by decide) rfl (fun ls hl => ?_)
            refine lv_iinc (v := (nI (ru + 1))) (lv' := [(6, .int (nI (ru + 1))), (5, .int lv), (10, .int 1), (9, .int (dS S ru xb xt)), (8, .int (dS S ru xf xb)), (7, .int (dS S ru xf xt)), (4, .int (slowS S xf xt)), (3, .int (nI xb)), (2, .int (nI xt)), (1, .int (nI xf)), (0, .ref xo)]) hx hb dL_isPair_214 hl (k := 5) rfl (nI_1 ru) (by decide) rfl (fun ls hl => ?_)
            refine lv_goto (tgt := 15) hx hb dL_isPair_217 (by decide) ?_
            exact ih_15 (ru + 1) lv u_131 (by omega) (by omega) (Or.inl ⟨hlv, all_ext (P := fun v => dS S v xf xt = -1) hall e1⟩) (hJ) _ _ (hP) (hD) hS _ (lv_sub hl [0, 1, 6, 7, 8, 9, 10] rfl)
          · have hlv : ¬ lv < nI m1 := by
              rcases hla with ⟨z, -⟩ | ⟨lm, z1, z2, vv, z3, z4⟩
              · rw [z]; exact nI_lt0 (a := 100) (b := m1) (by decide) (by omega) (by omega)
              · obtain ⟨m8, y1, y2, y3⟩ := d_mono hf htx (show vv ≤ ru by omega) z4 (by omega)
                have y4 := nI_inj (by omega) (by omega) (y2.symm.trans e1)
                rw [z2]; exact nI_lt0 (by omega) (by omega) (by omega)
            refine lv_iload hx hb dL_isPair_127 (lv_at hl 2 rfl) ?_
            refine top_i (y := (nI m1)) e1 ?_
            refine lv_aload_n hx hb dL_isPair_129 rfl (lv_at hl 9 rfl) ?_
            refine lv_iconst (v := 1) hx hb dL_isPair_130 (by decide) ?_
            refine cB_i hJ.hd CF hK hN hA hS hP hD (b_count l D cI cZ cW cJ A X xo S XB7 1 (by decide) hJ) (cwV 1 hts gL_isPair_X8_count rfl rfl rfl (by decide +kernel) ⟨Nat.le_of_ble_eq_true rfl, Nat.le_of_ble_eq_true rfl⟩) (As := [.int 1]) (rest := [.int (nI m1)]) rfl hl.1 rfl (Nat.le_of_ble_eq_true rfl) dL_isPair_131 ⟨Nat.le_of_ble_eq_true rfl, Nat.le_of_ble_eq_true rfl⟩ (fun r_131 u_131 H locs hq hP hD hS => ?_)
            obtain ⟨hrv, hJ⟩ := hq
            subst hrv
            refine top_i (y := (nI (nS S))) rfl ?_
            have c_134 : ¬ ((nI (nS S)) : Int32) ≤ (nI m1) := nI_len (by omega) (by omega) hm1
            refine lv_icmp_ge (tgt := 190) hx hb dL_isPair_134 (by decide) (fun q => absurd q c_134) (fun _ => ?_)
            refine lv_iload hx hb dL_isPair_137 (lv_at hl 2 rfl) ?_
            refine top_i (y := (nI m1)) e1 ?_
            have c_139 : (0 : Int32) ≤ (nI m1) := Int32.not_lt.mp (nI_pos (by omega))
            refine lv_if_ge (tgt := 149) hx hb dL_isPair_139 (by decide) (fun _ => ?_) (fun q => absurd c_139 q)
            refine lv_iload hx hb dL_isPair_149 (lv_at hl 2 rfl) ?_
            refine top_i (y := (nI m1)) e1 ?_
            have c_151 : ¬ ((nI m1) : Int32) < 0 := nI_pos (by omega)
            refine lv_if_lt (tgt := 161) hx hb dL_isPair_151 (by decide) (fun q => absurd q c_151) (fun _ => ?_)
            refine lv_iload hx hb dL_isPair_154 (lv_at hl 2 rfl) ?_
            refine top_i (y := (nI m1)) e1 ?_
            refine lv_iload hx hb dL_isPair_156 (lv_at hl 4 rfl) ?_
            have c_158 : ¬ (lv : Int32) < (nI m1) := hlv
            refine lv_icmp_gt (tgt := 190) hx hb dL_isPair_158 (by decide) (fun q => absurd q c_158) (fun _ => ?_)
            refine lv_iload hx hb dL_isPair_161 (lv_at hl 1 rfl) ?_
            refine top_i (y := (-1)) e2 ?_
            have c_163 : ((-1) : Int32) < 0 := by decide
            refine lv_if_lt (tgt := 186) hx hb dL_isPair_163 (by decide) (fun _ => ?_) (fun q => absurd c_163 q)
            refine lv_iconst (v := 1) hx hb dL_isPair_186 (by decide) ?_
            refine lv_goto (tgt := 191) hx hb dL_isPair_187 (by decide) ?_
            refine lv_istore (lv' := [(10, .int 1), (9, .int (dS S ru xb xt)), (8, .int (dS S ru xf xb)), (7, .int (dS S ru xf xt)), (6, .int (nI ru)), (5, .int lv), (4, .int (slowS S xf xt)), (3, .int (nI xb)), (2, .int (nI xt)), (1, .int (nI xf)), (0, .ref xo)]) hx hb dL_isPair_191 hl (by decide) rfl (fun ls hl => ?_)
            refine lv_iload hx hb dL_isPair_193 (lv_at hl 0 rfl) ?_
            have c_195 : ¬ (1 : Int32) = 0 := by decide
            refine lv_if_ne (tgt := 200) hx hb dL_isPair_195 (by decide) (fun _ => ?_) (fun q => absurd q c_195)
            refine lv_iload hx hb dL_isPair_200 (lv_at hl 3 rfl) ?_
            refine top_i (y := (nI m1)) e1 ?_
            have c_202 : (0 : Int32) ≤ (nI m1) := Int32.not_lt.mp (nI_pos (by omega))
            refine lv_if_ge (tgt := 210) hx hb dL_isPair_202 (by decide) (fun _ => ?_) (fun q => absurd c_202 q)
            refine lv_iload hx hb dL_isPair_210 (lv_at hl 3 rfl) ?_
            refine top_i (y := (nI m1)) e1 ?_
            refine lv_istore (lv' := [(5, .int (nI m1)), (10, .int 1), (9, .int (dS S ru xb xt)), (8, .int (dS S ru xf xb)), (7, .int (dS S ru xf xt)), (6, .int (nI ru)), (4, .int (slowS S xf xt)), (3, .int (nI xb)), (2, .int (nI xt)), (1, .int (nI xf)), (0, .ref xo)]) hx hb dL_isPair_212 hl (by decide) rfl (fun ls hl => ?_)
            refine lv_iinc (v := (nI (ru + 1))) (lv' := [(6, .int (nI (ru + 1))), (5, .int (nI m1)), (10, .int 1), (9, .int (dS S ru xb xt)), (8, .int (dS S ru xf xb)), (7, .int (dS S ru xf xt)), (4, .int (slowS S xf xt)), (3, .int (nI xb)), (2, .int (nI xt)), (1, .int (nI xf)), (0, .ref xo)]) hx hb dL_isPair_214 hl (k := 5) rfl (nI_1 ru) (by decide) rfl (fun ls hl => ?_)
            refine lv_goto (tgt := 15) hx hb dL_isPair_217 (by decide) ?_
            exact ih_15 (ru + 1) (nI m1) u_131 (by omega) (by omega) (Or.inr ⟨m1, by omega, rfl, ru, by omega, e1⟩) (hJ) _ _ (hP) (hD) hS _ (lv_sub hl [0, 1, 6, 7, 8, 9, 10] rfl)
          · have hlv : ¬ lv < nI m1 := by
              rcases hla with ⟨z, -⟩ | ⟨lm, z1, z2, vv, z3, z4⟩
              · rw [z]; exact nI_lt0 (a := 100) (b := m1) (by decide) (by omega) (by omega)
              · obtain ⟨m8, y1, y2, y3⟩ := d_mono hf htx (show vv ≤ ru by omega) z4 (by omega)
                have y4 := nI_inj (by omega) (by omega) (y2.symm.trans e1)
                rw [z2]; exact nI_lt0 (by omega) (by omega) (by omega)
            refine lv_iload hx hb dL_isPair_127 (lv_at hl 2 rfl) ?_
            refine top_i (y := (nI m1)) e1 ?_
            refine lv_aload_n hx hb dL_isPair_129 rfl (lv_at hl 9 rfl) ?_
            refine lv_iconst (v := 1) hx hb dL_isPair_130 (by decide) ?_
            refine cB_i hJ.hd CF hK hN hA hS hP hD (b_count l D cI cZ cW cJ A X xo S XB7 1 (by decide) hJ) (cwV 1 hts gL_isPair_X8_count rfl rfl rfl (by decide +kernel) ⟨Nat.le_of_ble_eq_true rfl, Nat.le_of_ble_eq_true rfl⟩) (As := [.int 1]) (rest := [.int (nI m1)]) rfl hl.1 rfl (Nat.le_of_ble_eq_true rfl) dL_isPair_131 ⟨Nat.le_of_ble_eq_true rfl, Nat.le_of_ble_eq_true rfl⟩ (fun r_131 u_131 H locs hq hP hD hS => ?_)
            obtain ⟨hrv, hJ⟩ := hq
            subst hrv
            refine top_i (y := (nI (nS S))) rfl ?_
            have c_134 : ¬ ((nI (nS S)) : Int32) ≤ (nI m1) := nI_len (by omega) (by omega) hm1
            refine lv_icmp_ge (tgt := 190) hx hb dL_isPair_134 (by decide) (fun q => absurd q c_134) (fun _ => ?_)
            refine lv_iload hx hb dL_isPair_137 (lv_at hl 2 rfl) ?_
            refine top_i (y := (nI m1)) e1 ?_
            have c_139 : (0 : Int32) ≤ (nI m1) := Int32.not_lt.mp (nI_pos (by omega))
            refine lv_if_ge (tgt := 149) hx hb dL_isPair_139 (by decide) (fun _ => ?_) (fun q => absurd c_139 q)
            refine lv_iload hx hb dL_isPair_149 (lv_at hl 2 rfl) ?_
            refine top_i (y := (nI m1)) e1 ?_
            have c_151 : ¬ ((nI m1) : Int32) < 0 := nI_pos (by omega)
            refine lv_if_lt (tgt := 161) hx hb dL_isPair_151 (by decide) (fun q => absurd q c_151) (fun _ => ?_)
            refine lv_iload hx hb dL_isPair_154 (lv_at hl 2 rfl) ?_
            refine top_i (y := (nI m1)) e1 ?_
            refine lv_iload hx hb dL_isPair_156 (lv_at hl 4 rfl) ?_
            have c_158 : ¬ (lv : Int32) < (nI m1) := hlv
            refine lv_icmp_gt (tgt := 190) hx hb dL_isPair_158 (by decide) (fun q => absurd q c_158) (fun _ => ?_)
            refine lv_iload hx hb dL_isPair_161 (lv_at hl 1 rfl) ?_
            refine top_i (y := (nI m2)) e2 ?_
            have c_163 : ¬ ((nI m2) : Int32) < 0 := nI_pos (by omega)
            refine lv_if_lt (tgt := 186) hx hb dL_isPair_163 (by decide) (fun q => absurd q c_163) (fun _ => ?_)
            refine lv_iload hx hb dL_isPair_166 (lv_at hl 0 rfl) ?_
            refine top_i (y := (-1)) e3 ?_
            have c_168 : ((-1) : Int32) < 0 := by decide
            refine lv_if_lt (tgt := 186) hx hb dL_isPair_168 (by decide) (fun _ => ?_) (fun q => absurd c_168 q)
            refine lv_iconst (v := 1) hx hb dL_isPair_186 (by decide) ?_
            refine lv_goto (tgt := 191) hx hb dL_isPair_187 (by decide) ?_
            refine lv_istore (lv' := [(10, .int 1), (9, .int (dS S ru xb xt)), (8, .int (dS S ru xf xb)), (7, .int (dS S ru xf xt)), (6, .int (nI ru)), (5, .int lv), (4, .int (slowS S xf xt)), (3, .int (nI xb)), (2, .int (nI xt)), (1, .int (nI xf)), (0, .ref xo)]) hx hb dL_isPair_191 hl (by decide) rfl (fun ls hl => ?_)
            refine lv_iload hx hb dL_isPair_193 (lv_at hl 0 rfl) ?_
            have c_195 : ¬ (1 : Int32) = 0 := by decide
            refine lv_if_ne (tgt := 200) hx hb dL_isPair_195 (by decide) (fun _ => ?_) (fun q => absurd q c_195)
            refine lv_iload hx hb dL_isPair_200 (lv_at hl 3 rfl) ?_
            refine top_i (y := (nI m1)) e1 ?_
            have c_202 : (0 : Int32) ≤ (nI m1) := Int32.not_lt.mp (nI_pos (by omega))
            refine lv_if_ge (tgt := 210) hx hb dL_isPair_202 (by decide) (fun _ => ?_) (fun q => absurd c_202 q)
            refine lv_iload hx hb dL_isPair_210 (lv_at hl 3 rfl) ?_
            refine top_i (y := (nI m1)) e1 ?_
            refine lv_istore (lv' := [(5, .int (nI m1)), (10, .int 1), (9, .int (dS S ru xb xt)), (8, .int (dS S ru xf xb)), (7, .int (dS S ru xf xt)), (6, .int (nI ru)), (4, .int (slowS S xf xt)), (3, .int (nI xb)), (2, .int (nI xt)), (1, .int (nI xf)), (0, .ref xo)]) hx hb dL_isPair_212 hl (by decide) rfl (fun ls hl => ?_)
            refine lv_iinc (v := (nI (ru + 1))) (lv' := [(6, .int (nI (ru + 1))), (5, .int (nI m1)), (10, .int 1), (9, .int (dS S ru xb xt)), (8, .int (dS S ru xf xb)), (7, .int (dS S ru xf xt)), (4, .int (slowS S xf xt)), (3, .int (nI xb)), (2, .int (nI xt)), (1, .int (nI xf)), (0, .ref xo)]) hx hb dL_isPair_214 hl (k := 5) rfl (nI_1 ru) (by decide) rfl (fun ls hl => ?_)
            refine lv_goto (tgt := 15) hx hb dL_isPair_217 (by decide) ?_
            exact ih_15 (ru + 1) (nI m1) u_131 (by omega) (by omega) (Or.inr ⟨m1, by omega, rfl, ru, by omega, e1⟩) (hJ) _ _ (hP) (hD) hS _ (lv_sub hl [0, 1, 6, 7, 8, 9, 10] rfl)
          · have hlv : ¬ lv < nI m1 := by
              rcases hla with ⟨z, -⟩ | ⟨lm, z1, z2, vv, z3, z4⟩
              · rw [z]; exact nI_lt0 (a := 100) (b := m1) (by decide) (by omega) (by omega)
              · obtain ⟨m8, y1, y2, y3⟩ := d_mono hf htx (show vv ≤ ru by omega) z4 (by omega)
                have y4 := nI_inj (by omega) (by omega) (y2.symm.trans e1)
                rw [z2]; exact nI_lt0 (by omega) (by omega) (by omega)
            refine lv_iload hx hb dL_isPair_127 (lv_at hl 2 rfl) ?_
            refine top_i (y := (nI m1)) e1 ?_
            refine lv_aload_n hx hb dL_isPair_129 rfl (lv_at hl 9 rfl) ?_
            refine lv_iconst (v := 1) hx hb dL_isPair_130 (by decide) ?_
            refine cB_i hJ.hd CF hK hN hA hS hP hD (b_count l D cI cZ cW cJ A X xo S XB7 1 (by decide) hJ) (cwV 1 hts gL_isPair_X8_count rfl rfl rfl (by decide +kernel) ⟨Nat.le_of_ble_eq_true rfl, Nat.le_of_ble_eq_true rfl⟩) (As := [.int 1]) (rest := [.int (nI m1)]) rfl hl.1 rfl (Nat.le_of_ble_eq_true rfl) dL_isPair_131 ⟨Nat.le_of_ble_eq_true rfl, Nat.le_of_ble_eq_true rfl⟩ (fun r_131 u_131 H locs hq hP hD hS => ?_)
            obtain ⟨hrv, hJ⟩ := hq
            subst hrv
            refine top_i (y := (nI (nS S))) rfl ?_
            have c_134 : ¬ ((nI (nS S)) : Int32) ≤ (nI m1) := nI_len (by omega) (by omega) hm1
            refine lv_icmp_ge (tgt := 190) hx hb dL_isPair_134 (by decide) (fun q => absurd q c_134) (fun _ => ?_)
            refine lv_iload hx hb dL_isPair_137 (lv_at hl 2 rfl) ?_
            refine top_i (y := (nI m1)) e1 ?_
            have c_139 : (0 : Int32) ≤ (nI m1) := Int32.not_lt.mp (nI_pos (by omega))
            refine lv_if_ge (tgt := 149) hx hb dL_isPair_139 (by decide) (fun _ => ?_) (fun q => absurd c_139 q)
            refine lv_iload hx hb dL_isPair_149 (lv_at hl 2 rfl) ?_
            refine top_i (y := (nI m1)) e1 ?_
            have c_151 : ¬ ((nI m1) : Int32) < 0 := nI_pos (by omega)
            refine lv_if_lt (tgt := 161) hx hb dL_isPair_151 (by decide) (fun q => absurd q c_151) (fun _ => ?_)
            refine lv_iload hx hb dL_isPair_154 (lv_at hl 2 rfl) ?_
            refine top_i (y := (nI m1)) e1 ?_
            refine lv_iload hx hb dL_isPair_156 (lv_at hl 4 rfl) ?_
            have c_158 : ¬ (lv : Int32) < (nI m1) := hlv
            refine lv_icmp_gt (tgt := 190) hx hb dL_isPair_158 (by decide) (fun q => absurd q c_158) (fun _ => ?_)
            refine lv_iload hx hb dL_isPair_161 (lv_at hl 1 rfl) ?_
            refine top_i (y := (nI m2)) e2 ?_
            have c_163 : ¬ ((nI m2) : Int32) < 0 := nI_pos (by omega)
            refine lv_if_lt (tgt := 186) hx hb dL_isPair_163 (by decide) (fun q => absurd q c_163) (fun _ => ?_)
            refine lv_iload hx hb dL_isPair_166 (lv_at hl 0 rfl) ?_
            refine top_i (y := (nI m3)) e3 ?_
            have c_168 : ¬ ((nI m3) : Int32) < 0 := nI_pos (by omega)
            refine lv_if_lt (tgt := 186) hx hb dL_isPair_168 (by decide) (fun q => absurd q c_168) (fun _ => ?_)
            refine lv_iload hx hb dL_isPair_171 (lv_at hl 2 rfl) ?_
            refine top_i (y := (nI m1)) e1 ?_
            have c_173 : ¬ ((nI m1) : Int32) < 0 := nI_pos (by omega)
            refine lv_if_lt (tgt := 190) hx hb dL_isPair_173 (by decide) (fun q => absurd q c_173) (fun _ => ?_)
            refine lv_iload hx hb dL_isPair_176 (lv_at hl 2 rfl) ?_
            refine top_i (y := (nI m1)) e1 ?_
            refine lv_iload hx hb dL_isPair_178 (lv_at hl 1 rfl) ?_
            refine top_i (y := (nI m2)) e2 ?_
            refine lv_iload hx hb dL_isPair_180 (lv_at hl 0 rfl) ?_
            refine top_i (y := (nI m3)) e3 ?_
            refine lv_iadd hx hb dL_isPair_182 ?_
            refine top_i (y := (nI (m2 + m3))) (nI_add m2 m3) ?_
            have c_183 : ¬ ((nI (m2 + m3)) : Int32) < (nI m1) := nI_lt0 (by omega) (by omega) h123
            refine lv_icmp_gt (tgt := 190) hx hb dL_isPair_183 (by decide) (fun q => absurd q c_183) (fun _ => ?_)
            refine lv_iconst (v := 1) hx hb dL_isPair_186 (by decide) ?_
            refine lv_goto (tgt := 191) hx hb dL_isPair_187 (by decide) ?_
            refine lv_istore (lv' := [(10, .int 1), (9, .int (dS S ru xb xt)), (8, .int (dS S ru xf xb)), (7, .int (dS S ru xf xt)), (6, .int (nI ru)), (5, .int lv), (4, .int (slowS S xf xt)), (3, .int (nI xb)), (2, .int (nI xt)), (1, .int (nI xf)), (0, .ref xo)]) hx hb dL_isPair_191 hl (by decide) rfl (fun ls hl => ?_)
            refine lv_iload hx hb dL_isPair_193 (lv_at hl 0 rfl) ?_
            have c_195 : ¬ (1 : Int32) = 0 := by decide
            refine lv_if_ne (tgt := 200) hx hb dL_isPair_195 (by decide) (fun _ => ?_) (fun q => absurd q c_195)
            refine lv_iload hx hb dL_isPair_200 (lv_at hl 3 rfl) ?_
            refine top_i (y := (nI m1)) e1 ?_
            have c_202 : (0 : Int32) ≤ (nI m1) := Int32.not_lt.mp (nI_pos (by omega))
            refine lv_if_ge (tgt := 210) hx hb dL_isPair_202 (by decide) (fun _ => ?_) (fun q => absurd c_202 q)
            refine lv_iload hx hb dL_isPair_210 (lv_at hl 3 rfl) ?_
            refine top_i (y := (nI m1)) e1 ?_
            refine lv_istore (lv' := [(5, .int (nI m1)), (10, .int 1), (9, .int (dS S ru xb xt)), (8, .int (dS S ru xf xb)), (7, .int (dS S ru xf xt)), (6, .int (nI ru)), (4, .int (slowS S xf xt)), (3, .int (nI xb)), (2, .int (nI xt)), (1, .int (nI xf)), (0, .ref xo)]) hx hb dL_isPair_212 hl (by decide) rfl (fun ls hl => ?_)
            refine lv_iinc (v := (nI (ru + 1))) (lv' := [(6, .int (nI (ru + 1))), (5, .int (nI m1)), (10, .int 1), (9, .int (dS S ru xb xt)), (8, .int (dS S ru xf xb)), (7, .int (dS S ru xf xt)), (4, .int (slowS S xf xt)), (3, .int (nI xb)), (2, .int (nI xt)), (1, .int (nI xf)), (0, .ref xo)]) hx hb dL_isPair_214 hl (k := 5) rfl (nI_1 ru) (by decide) rfl (fun ls hl => ?_)
            refine lv_goto (tgt := 15) hx hb dL_isPair_217 (by decide) ?_
            exact ih_15 (ru + 1) (nI m1) u_131 (by omega) (by omega) (Or.inr ⟨m1, by omega, rfl, ru, by omega, e1⟩) (hJ) _ _ (hP) (hD) hS _ (lv_sub hl [0, 1, 6, 7, 8, 9, 10] rfl)
        have hT := d_turn hf htx (show ru ≤ 3 by omega) rfl rfl
        have hsp : dS S ru xf xt = -1 ∨ dS S ru xf xt = nI 0 ∨ dS S ru xf xt = nI 1 ∨ ∃ m9, 2 ≤ m9 ∧ m9 < 100 ∧ dS S ru xf xt = nI m9 := by
          rcases d_spec (k := ru) hf htx with ⟨z, -⟩ | ⟨z1, z2, z3, -⟩
          · exact Or.inl z
          · rcases (show z1 = 0 ∨ z1 = 1 ∨ 2 ≤ z1 by omega) with rfl | rfl | z4
            · exact Or.inr (Or.inl z3)
            · exact Or.inr (Or.inr (Or.inl z3))
            · exact Or.inr (Or.inr (Or.inr ⟨z1, z4, by omega, z3⟩))
        rcases hsp with e9 | e9 | e9 | ⟨m9, hm2, hm9, e9⟩
        · have hx1 : ¬ dS S ru xf xt = 1 := by rw [e9]; decide
          have hne : xf ≠ xt := fun q => by have z := hT.1.mpr q; rw [e9] at z; exact absurd z (by decide)
          refine lv_iload hx hb dL_isPair_54 (lv_at hl 2 rfl) ?_
          refine top_i (y := (-1)) e9 ?_
          refine lv_aload_n hx hb dL_isPair_56 rfl (lv_at hl 9 rfl) ?_
          refine lv_iload_n hx hb dL_isPair_57 rfl (lv_at hl 8 rfl) ?_
          refine lv_iload_n hx hb dL_isPair_58 rfl (lv_at hl 7 rfl) ?_
          refine lv_iload hx hb dL_isPair_59 (lv_at hl 3 rfl) ?_
          refine lv_iconst (v := 1) hx hb dL_isPair_61 (by decide) ?_
          refine cB_i hJ.hd CF hK hN hA hS hP hD (b_fewest l D cI cZ cW cJ A X xo S u_49 xf xt ru 1 (by omega) (by omega) (by omega) (by decide) hJ) (cwV 4 hts gL_isPair_X8_fewest rfl rfl rfl (by decide +kernel) ⟨Nat.le_of_ble_eq_true rfl, Nat.le_of_ble_eq_true rfl⟩) (As := [.int (nI xf), .int (nI xt), .int (nI ru), .int 1]) (rest := [.int (-1)]) rfl hl.1 rfl (Nat.le_of_ble_eq_true rfl) dL_isPair_62 ⟨Nat.le_of_ble_eq_true rfl, Nat.le_of_ble_eq_true rfl⟩ (fun r_62 u_62 H locs hq hP hD hS => ?_)
          obtain ⟨hrv, hJ⟩ := hq
          subst hrv
          refine top_i (y := (-1)) e9 ?_
          have c_65 : ((-1) : Int32) = (-1) := rfl
          refine lv_icmp_ne (tgt := 190) hx hb dL_isPair_65 (by decide) (fun q => absurd c_65 q) (fun _ => ?_)
          refine lv_iload hx hb dL_isPair_68 (lv_at hl 2 rfl) ?_
          refine top_i (y := (-1)) e9 ?_
          have c_70 : ¬ ((-1) : Int32) = 0 := by decide
          refine lv_if_ne (tgt := 77) hx hb dL_isPair_70 (by decide) (fun _ => ?_) (fun q => absurd q c_70)
          refine lv_iconst (v := 0) hx hb dL_isPair_77 (by decide) ?_
          refine lv_iload_n hx hb dL_isPair_78 rfl (lv_at hl 8 rfl) ?_
          refine lv_iload_n hx hb dL_isPair_79 rfl (lv_at hl 7 rfl) ?_
          have c_80 : ¬ ((nI xf) : Int32) = (nI xt) := nI_nee (by omega) (by omega) hne
          refine lv_icmp_ne (tgt := 87) hx hb dL_isPair_80 (by decide) (fun _ => ?_) (fun q => absurd q c_80)
          refine lv_iconst (v := 0) hx hb dL_isPair_87 (by decide) ?_
          have c_88 : (0 : Int32) = 0 := rfl
          refine lv_icmp_ne (tgt := 190) hx hb dL_isPair_88 (by decide) (fun q => absurd c_88 q) (fun _ => ?_)
          refine lv_iload hx hb dL_isPair_91 (lv_at hl 2 rfl) ?_
          refine top_i (y := (-1)) e9 ?_
          refine lv_iconst (v := 1) hx hb dL_isPair_93 (by decide) ?_
          have c_94 : ¬ ((-1) : Int32) = 1 := by decide
          refine lv_icmp_ne (tgt := 101) hx hb dL_isPair_94 (by decide) (fun _ => ?_) (fun q => absurd q c_94)
          refine lv_iconst (v := 0) hx hb dL_isPair_101 (by decide) ?_
          refine lv_iload_n hx hb dL_isPair_102 rfl (lv_at hl 8 rfl) ?_
          refine lv_iload_n hx hb dL_isPair_103 rfl (lv_at hl 7 rfl) ?_
          have c_104 : ¬ ((nI xf) : Int32) = (nI xt) := nI_nee (by omega) (by omega) hne
          refine lv_icmp_eq (tgt := 123) hx hb dL_isPair_104 (by decide) (fun q => absurd q c_104) (fun _ => ?_)
          refine lv_iload hx hb dL_isPair_107 (lv_at hl 5 rfl) ?_
          refine lv_if_lt (tgt := 123) hx hb dL_isPair_109 (by decide) (fun c_109 => ?_) (fun c_109 => ?_)
          · refine lv_iconst (v := 0) hx hb dL_isPair_123 (by decide) ?_
            have c_124 : (0 : Int32) = 0 := rfl
            refine lv_icmp_ne (tgt := 190) hx hb dL_isPair_124 (by decide) (fun q => absurd c_124 q) (fun _ => ?_)
            exact join_127 u_62 hJ _ _ hP hD hS _ (lv_sub hl [0, 1, 2, 3, 4, 5, 6, 7, 8, 9] rfl)
          · refine lv_iload hx hb dL_isPair_112 (lv_at hl 5 rfl) ?_
            refine lv_iload hx hb dL_isPair_114 (lv_at hl 3 rfl) ?_
            have c_116 : ((nI ru) : Int32) < (slowS S xf xt) := Int32.not_le.mp (fun q => hx1 (hT.2.mpr ⟨hne, c_109, q⟩))
            refine lv_icmp_gt (tgt := 123) hx hb dL_isPair_116 (by decide) (fun _ => ?_) (fun q => absurd c_116 q)
            refine lv_iconst (v := 0) hx hb dL_isPair_123 (by decide) ?_
            have c_124 : (0 : Int32) = 0 := rfl
            refine lv_icmp_ne (tgt := 190) hx hb dL_isPair_124 (by decide) (fun q => absurd c_124 q) (fun _ => ?_)
            exact join_127 u_62 hJ _ _ hP hD hS _ (lv_sub hl [0, 1, 2, 3, 4, 5, 6, 7, 8, 9] rfl)
        · have e9 : dS S ru xf xt = 0 := e9
          have hx1 : ¬ dS S ru xf xt = 1 := by rw [e9]; decide
          have hab : xf = xt := hT.1.mp e9
          refine lv_iload hx hb dL_isPair_54 (lv_at hl 2 rfl) ?_
          refine top_i (y := 0) e9 ?_
          refine lv_aload_n hx hb dL_isPair_56 rfl (lv_at hl 9 rfl) ?_
          refine lv_iload_n hx hb dL_isPair_57 rfl (lv_at hl 8 rfl) ?_
          refine lv_iload_n hx hb dL_isPair_58 rfl (lv_at hl 7 rfl) ?_
          refine lv_iload hx hb dL_isPair_59 (lv_at hl 3 rfl) ?_
          refine lv_iconst (v := 1) hx hb dL_isPair_61 (by decide) ?_
          refine cB_i hJ.hd CF hK hN hA hS hP hD (b_fewest l D cI cZ cW cJ A X xo S u_49 xf xt ru 1 (by omega) (by omega) (by omega) (by decide) hJ) (cwV 4 hts gL_isPair_X8_fewest rfl rfl rfl (by decide +kernel) ⟨Nat.le_of_ble_eq_true rfl, Nat.le_of_ble_eq_true rfl⟩) (As := [.int (nI xf), .int (nI xt), .int (nI ru), .int 1]) (rest := [.int 0]) rfl hl.1 rfl (Nat.le_of_ble_eq_true rfl) dL_isPair_62 ⟨Nat.le_of_ble_eq_true rfl, Nat.le_of_ble_eq_true rfl⟩ (fun r_62 u_62 H locs hq hP hD hS => ?_)
          obtain ⟨hrv, hJ⟩ := hq
          subst hrv
          refine top_i (y := 0) e9 ?_
          have c_65 : (0 : Int32) = 0 := rfl
          refine lv_icmp_ne (tgt := 190) hx hb dL_isPair_65 (by decide) (fun q => absurd c_65 q) (fun _ => ?_)
          refine lv_iload hx hb dL_isPair_68 (lv_at hl 2 rfl) ?_
          refine top_i (y := 0) e9 ?_
          have c_70 : (0 : Int32) = 0 := rfl
          refine lv_if_ne (tgt := 77) hx hb dL_isPair_70 (by decide) (fun q => absurd c_70 q) (fun _ => ?_)
          refine lv_iconst (v := 1) hx hb dL_isPair_73 (by decide) ?_
          refine lv_goto (tgt := 78) hx hb dL_isPair_74 (by decide) ?_
          refine lv_iload_n hx hb dL_isPair_78 rfl (lv_at hl 8 rfl) ?_
          refine lv_iload_n hx hb dL_isPair_79 rfl (lv_at hl 7 rfl) ?_
          have c_80 : ((nI xf) : Int32) = (nI xt) := congrArg nI hab
          refine lv_icmp_ne (tgt := 87) hx hb dL_isPair_80 (by decide) (fun q => absurd c_80 q) (fun _ => ?_)
          refine lv_iconst (v := 1) hx hb dL_isPair_83 (by decide) ?_
          refine lv_goto (tgt := 88) hx hb dL_isPair_84 (by decide) ?_
          have c_88 : (1 : Int32) = 1 := rfl
          refine lv_icmp_ne (tgt := 190) hx hb dL_isPair_88 (by decide) (fun q => absurd c_88 q) (fun _ => ?_)
          refine lv_iload hx hb dL_isPair_91 (lv_at hl 2 rfl) ?_
          refine top_i (y := 0) e9 ?_
          refine lv_iconst (v := 1) hx hb dL_isPair_93 (by decide) ?_
          have c_94 : ¬ (0 : Int32) = 1 := by decide
          refine lv_icmp_ne (tgt := 101) hx hb dL_isPair_94 (by decide) (fun _ => ?_) (fun q => absurd q c_94)
          refine lv_iconst (v := 0) hx hb dL_isPair_101 (by decide) ?_
          refine lv_iload_n hx hb dL_isPair_102 rfl (lv_at hl 8 rfl) ?_
          refine lv_iload_n hx hb dL_isPair_103 rfl (lv_at hl 7 rfl) ?_
          have c_104 : ((nI xf) : Int32) = (nI xt) := congrArg nI hab
          refine lv_icmp_eq (tgt := 123) hx hb dL_isPair_104 (by decide) (fun _ => ?_) (fun q => absurd c_104 q)
          refine lv_iconst (v := 0) hx hb dL_isPair_123 (by decide) ?_
          have c_124 : (0 : Int32) = 0 := rfl
          refine lv_icmp_ne (tgt := 190) hx hb dL_isPair_124 (by decide) (fun q => absurd c_124 q) (fun _ => ?_)
          exact join_127 u_62 hJ _ _ hP hD hS _ (lv_sub hl [0, 1, 2, 3, 4, 5, 6, 7, 8, 9] rfl)
        · have e9 : dS S ru xf xt = 1 := e9
          obtain ⟨hne, hs1, hs2⟩ := hT.2.mp e9
          refine lv_iload hx hb dL_isPair_54 (lv_at hl 2 rfl) ?_
          refine top_i (y := 1) e9 ?_
          refine lv_aload_n hx hb dL_isPair_56 rfl (lv_at hl 9 rfl) ?_
          refine lv_iload_n hx hb dL_isPair_57 rfl (lv_at hl 8 rfl) ?_
          refine lv_iload_n hx hb dL_isPair_58 rfl (lv_at hl 7 rfl) ?_
          refine lv_iload hx hb dL_isPair_59 (lv_at hl 3 rfl) ?_
          refine lv_iconst (v := 1) hx hb dL_isPair_61 (by decide) ?_
          refine cB_i hJ.hd CF hK hN hA hS hP hD (b_fewest l D cI cZ cW cJ A X xo S u_49 xf xt ru 1 (by omega) (by omega) (by omega) (by decide) hJ) (cwV 4 hts gL_isPair_X8_fewest rfl rfl rfl (by decide +kernel) ⟨Nat.le_of_ble_eq_true rfl, Nat.le_of_ble_eq_true rfl⟩) (As := [.int (nI xf), .int (nI xt), .int (nI ru), .int 1]) (rest := [.int 1]) rfl hl.1 rfl (Nat.le_of_ble_eq_true rfl) dL_isPair_62 ⟨Nat.le_of_ble_eq_true rfl, Nat.le_of_ble_eq_true rfl⟩ (fun r_62 u_62 H locs hq hP hD hS => ?_)
          obtain ⟨hrv, hJ⟩ := hq
          subst hrv
          refine top_i (y := 1) e9 ?_
          have c_65 : (1 : Int32) = 1 := rfl
          refine lv_icmp_ne (tgt := 190) hx hb dL_isPair_65 (by decide) (fun q => absurd c_65 q) (fun _ => ?_)
          refine lv_iload hx hb dL_isPair_68 (lv_at hl 2 rfl) ?_
          refine top_i (y := 1) e9 ?_
          have c_70 : ¬ (1 : Int32) = 0 := by decide
          refine lv_if_ne (tgt := 77) hx hb dL_isPair_70 (by decide) (fun _ => ?_) (fun q => absurd q c_70)
          refine lv_iconst (v := 0) hx hb dL_isPair_77 (by decide) ?_
          refine lv_iload_n hx hb dL_isPair_78 rfl (lv_at hl 8 rfl) ?_
          refine lv_iload_n hx hb dL_isPair_79 rfl (lv_at hl 7 rfl) ?_
          have c_80 : ¬ ((nI xf) : Int32) = (nI xt) := nI_nee (by omega) (by omega) hne
          refine lv_icmp_ne (tgt := 87) hx hb dL_isPair_80 (by decide) (fun _ => ?_) (fun q => absurd q c_80)
          refine lv_iconst (v := 0) hx hb dL_isPair_87 (by decide) ?_
          have c_88 : (0 : Int32) = 0 := rfl
          refine lv_icmp_ne (tgt := 190) hx hb dL_isPair_88 (by decide) (fun q => absurd c_88 q) (fun _ => ?_)
          refine lv_iload hx hb dL_isPair_91 (lv_at hl 2 rfl) ?_
          refine top_i (y := 1) e9 ?_
          refine lv_iconst (v := 1) hx hb dL_isPair_93 (by decide) ?_
          have c_94 : (1 : Int32) = 1 := rfl
          refine lv_icmp_ne (tgt := 101) hx hb dL_isPair_94 (by decide) (fun q => absurd c_94 q) (fun _ => ?_)
          refine lv_iconst (v := 1) hx hb dL_isPair_97 (by decide) ?_
          refine lv_goto (tgt := 102) hx hb dL_isPair_98 (by decide) ?_
          refine lv_iload_n hx hb dL_isPair_102 rfl (lv_at hl 8 rfl) ?_
          refine lv_iload_n hx hb dL_isPair_103 rfl (lv_at hl 7 rfl) ?_
          have c_104 : ¬ ((nI xf) : Int32) = (nI xt) := nI_nee (by omega) (by omega) hne
          refine lv_icmp_eq (tgt := 123) hx hb dL_isPair_104 (by decide) (fun q => absurd q c_104) (fun _ => ?_)
          refine lv_iload hx hb dL_isPair_107 (lv_at hl 5 rfl) ?_
          have c_109 : ¬ ((slowS S xf xt) : Int32) < 0 := hs1
          refine lv_if_lt (tgt := 123) hx hb dL_isPair_109 (by decide) (fun q => absurd q c_109) (fun _ => ?_)
          refine lv_iload hx hb dL_isPair_112 (lv_at hl 5 rfl) ?_
          refine lv_iload hx hb dL_isPair_114 (lv_at hl 3 rfl) ?_
          have c_116 : ¬ ((nI ru) : Int32) < (slowS S xf xt) := Int32.not_lt.mpr hs2
          refine lv_icmp_gt (tgt := 123) hx hb dL_isPair_116 (by decide) (fun q => absurd q c_116) (fun _ => ?_)
          refine lv_iconst (v := 1) hx hb dL_isPair_119 (by decide) ?_
          refine lv_goto (tgt := 124) hx hb dL_isPair_120 (by decide) ?_
          have c_124 : (1 : Int32) = 1 := rfl
          refine lv_icmp_ne (tgt := 190) hx hb dL_isPair_124 (by decide) (fun q => absurd c_124 q) (fun _ => ?_)
          exact join_127 u_62 hJ _ _ hP hD hS _ (lv_sub hl [0, 1, 2, 3, 4, 5, 6, 7, 8, 9] rfl)
        · have hx1 : ¬ dS S ru xf xt = 1 := by rw [e9]; exact nI_nee (a := m9) (b := 1) (by omega) (by decide) (by omega)
          have hne : xf ≠ xt := fun q => by have z := hT.1.mpr q; rw [e9] at z; exact nI_ne0 (by omega) (by omega) z
          refine lv_iload hx hb dL_isPair_54 (lv_at hl 2 rfl) ?_
          refine top_i (y := (nI m9)) e9 ?_
          refine lv_aload_n hx hb dL_isPair_56 rfl (lv_at hl 9 rfl) ?_
          refine lv_iload_n hx hb dL_isPair_57 rfl (lv_at hl 8 rfl) ?_
          refine lv_iload_n hx hb dL_isPair_58 rfl (lv_at hl 7 rfl) ?_
          refine lv_iload hx hb dL_isPair_59 (lv_at hl 3 rfl) ?_
          refine lv_iconst (v := 1) hx hb dL_isPair_61 (by decide) ?_
          refine cB_i hJ.hd CF hK hN hA hS hP hD (b_fewest l D cI cZ cW cJ A X xo S u_49 xf xt ru 1 (by omega) (by omega) (by omega) (by decide) hJ) (cwV 4 hts gL_isPair_X8_fewest rfl rfl rfl (by decide +kernel) ⟨Nat.le_of_ble_eq_true rfl, Nat.le_of_ble_eq_true rfl⟩) (As := [.int (nI xf), .int (nI xt), .int (nI ru), .int 1]) (rest := [.int (nI m9)]) rfl hl.1 rfl (Nat.le_of_ble_eq_true rfl) dL_isPair_62 ⟨Nat.le_of_ble_eq_true rfl, Nat.le_of_ble_eq_true rfl⟩ (fun r_62 u_62 H locs hq hP hD hS => ?_)
          obtain ⟨hrv, hJ⟩ := hq
          subst hrv
          refine top_i (y := (nI m9)) e9 ?_
          have c_65 : ((nI m9) : Int32) = (nI m9) := rfl
          refine lv_icmp_ne (tgt := 190) hx hb dL_isPair_65 (by decide) (fun q => absurd c_65 q) (fun _ => ?_)
          refine lv_iload hx hb dL_isPair_68 (lv_at hl 2 rfl) ?_
          refine top_i (y := (nI m9)) e9 ?_
          have c_70 : ¬ ((nI m9) : Int32) = 0 := nI_ne0 (by omega) (by omega)
          refine lv_if_ne (tgt := 77) hx hb dL_isPair_70 (by decide) (fun _ => ?_) (fun q => absurd q c_70)
          refine lv_iconst (v := 0) hx hb dL_isPair_77 (by decide) ?_
          refine lv_iload_n hx hb dL_isPair_78 rfl (lv_at hl 8 rfl) ?_
          refine lv_iload_n hx hb dL_isPair_79 rfl (lv_at hl 7 rfl) ?_
          have c_80 : ¬ ((nI xf) : Int32) = (nI xt) := nI_nee (by omega) (by omega) hne
          refine lv_icmp_ne (tgt := 87) hx hb dL_isPair_80 (by decide) (fun _ => ?_) (fun q => absurd q c_80)
          refine lv_iconst (v := 0) hx hb dL_isPair_87 (by decide) ?_
          have c_88 : (0 : Int32) = 0 := rfl
          refine lv_icmp_ne (tgt := 190) hx hb dL_isPair_88 (by decide) (fun q => absurd c_88 q) (fun _ => ?_)
          refine lv_iload hx hb dL_isPair_91 (lv_at hl 2 rfl) ?_
          refine top_i (y := (nI m9)) e9 ?_
          refine lv_iconst (v := 1) hx hb dL_isPair_93 (by decide) ?_
          have c_94 : ¬ ((nI m9) : Int32) = 1 := nI_nee (a := m9) (b := 1) (by omega) (by decide) (by omega)
          refine lv_icmp_ne (tgt := 101) hx hb dL_isPair_94 (by decide) (fun _ => ?_) (fun q => absurd q c_94)
          refine lv_iconst (v := 0) hx hb dL_isPair_101 (by decide) ?_
          refine lv_iload_n hx hb dL_isPair_102 rfl (lv_at hl 8 rfl) ?_
          refine lv_iload_n hx hb dL_isPair_103 rfl (lv_at hl 7 rfl) ?_
          have c_104 : ¬ ((nI xf) : Int32) = (nI xt) := nI_nee (by omega) (by omega) hne
          refine lv_icmp_eq (tgt := 123) hx hb dL_isPair_104 (by decide) (fun q => absurd q c_104) (fun _ => ?_)
          refine lv_iload hx hb dL_isPair_107 (lv_at hl 5 rfl) ?_
          refine lv_if_lt (tgt := 123) hx hb dL_isPair_109 (by decide) (fun c_109 => ?_) (fun c_109 => ?_)
          · refine lv_iconst (v := 0) hx hb dL_isPair_123 (by decide) ?_
            have c_124 : (0 : Int32) = 0 := rfl
            refine lv_icmp_ne (tgt := 190) hx hb dL_isPair_124 (by decide) (fun q => absurd c_124 q) (fun _ => ?_)
            exact join_127 u_62 hJ _ _ hP hD hS _ (lv_sub hl [0, 1, 2, 3, 4, 5, 6, 7, 8, 9] rfl)
          · refine lv_iload hx hb dL_isPair_112 (lv_at hl 5 rfl) ?_
            refine lv_iload hx hb dL_isPair_114 (lv_at hl 3 rfl) ?_
            have c_116 : ((nI ru) : Int32) < (slowS S xf xt) := Int32.not_le.mp (fun q => hx1 (hT.2.mpr ⟨hne, c_109, q⟩))
            refine lv_icmp_gt (tgt := 123) hx hb dL_isPair_116 (by decide) (fun _ => ?_) (fun q => absurd c_116 q)
            refine lv_iconst (v := 0) hx hb dL_isPair_123 (by decide) ?_
            have c_124 : (0 : Int32) = 0 := rfl
            refine lv_icmp_ne (tgt := 190) hx hb dL_isPair_124 (by decide) (fun q => absurd c_124 q) (fun _ => ?_)
            exact join_127 u_62 hJ _ _ hP hD hS _ (lv_sub hl [0, 1, 2, 3, 4, 5, 6, 7, 8, 9] rfl)
  exact loop_15 _ 0 100 u_3 (Nat.lt_succ_self _) (by omega) (Or.inl ⟨rfl, fun v hv => absurd hv (Nat.not_lt_zero _)⟩) (hJ) _ _ hP hD hS _ (lv_sub hl [0, 1, 2, 6, 5, 4, 3] rfl)
