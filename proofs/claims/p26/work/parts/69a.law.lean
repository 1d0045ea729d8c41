/-! calls of the block; the law's own methods -/
section Calls70
variable {p : Program} {l : Launch} {e : Env} {R : Room} {s : State} {m : MethodId} {args : Array Value} {below : List Frame} {meth : Method} {c : Code} {H : Heap} {locs : List Loc} {cells slots : Nat} {Q : State → Prop}
variable {cc : ByteArray} {pc : Nat} {ls : Array Slot} {rest st0 : List Value}
variable {y : MethodName} {bytes : ByteArray} {maxL nL mc ms n index : Nat} {ret : Option FieldType} {wsy : List Cond} {rm : Room} {Ts : List Cond} {own : String} {b : Addr} {As : List Value} {D : va_G} {ty : List (ClassId × FieldType)} {A : Nat → Prop} {X XB w wc : va_W}
theorem cut_id (hP : va_P D vwCl w H) (hD : va_D A w) : cutw D A w w H := ⟨hP, hD⟩
theorem he_app {fs : List Value} (he : XB[0]? = some (b, .inr (8, fs))) : (X ++ XB)[X.length]? = some (b, .inr (8, fs)) := by
  rw [List.getElem?_append_right (Nat.le_refl _), Nat.sub_self]; exact he
theorem cB_i {S9 : Type} {post : Int32 → S9 → Prop} {wc' : S9 → va_W} (he : ∃ fs, XB[0]? = some (b, .inr (8, fs))) (CF : CallFix p m c cc nL s args Ts own) (hK : va_K D vwCl ty s) (hN : NS s) (hA : ∀ q : Nat, s.heap.size ≤ q → A q) (hS : va_S A s.heap H locs) (hP : va_P D vwCl (X ++ XB) H) (hD : va_D A (X ++ XB))
    (hM : Met l y wsy rm (va_Pc (.ref b :: As) (wd D ty A (X ++ XB))) (va_Qi post (fun u t => wq D A (wc' u) t) A) mc ms A) (cw : CallW R s args own RX8 index y bytes maxL ret wsy rm mc ms n)
    (hn : As.length = n) (hsize : ls.size = nL) (hstack : st0 = As.reverse ++ .ref b :: rest) (hW : (rest.map fun v => v.category).sum ≤ 8) (hdg : decode cc pc = .ok (.invokevirtual index, 3)) (hf : cells + mc ≤ R.cells ∧ slots + ms ≤ R.slots)
    (kk : ∀ (r : Int32) (u : S9) (H1 : Heap) (locs1 : List Loc), post r u → va_P D vwCl (wc' u) H1 → va_D A (wc' u) → va_S A s.heap H1 locs1 → W p l e R s m args below meth c H1 locs1 (cells + mc) (slots + ms) Q (F0 m (pc + 3) ls (.int r :: rest))) : W p l e R s m args below meth c H locs cells slots Q (F0 m pc ls st0) := by
  obtain ⟨fs, he⟩ := he
  exact cV_i (r0 := (RX8, TX8, 10)) (ci := 8) (q0 := X.length) (fs := fs) CF hK hN hA hS (cut_id hP hD) hM cw rfl (he_app he) hn hsize hstack hW hdg hf kk
theorem cB_d {S9 : Type} {post : UInt64 → S9 → Prop} {wc' : S9 → va_W} (he : ∃ fs, XB[0]? = some (b, .inr (8, fs))) (CF : CallFix p m c cc nL s args Ts own) (hK : va_K D vwCl ty s) (hN : NS s) (hA : ∀ q : Nat, s.heap.size ≤ q → A q) (hS : va_S A s.heap H locs) (hP : va_P D vwCl (X ++ XB) H) (hD : va_D A (X ++ XB))
    (hM : Met l y wsy rm (va_Pc (.ref b :: As) (wd D ty A (X ++ XB))) (va_Qd post (fun u t => wq D A (wc' u) t) A) mc ms A) (cw : CallW R s args own RX8 index y bytes maxL ret wsy rm mc ms n)
    (hn : As.length = n) (hsize : ls.size = nL) (hstack : st0 = As.reverse ++ .ref b :: rest) (hW : (rest.map fun v => v.category).sum ≤ 8) (hdg : decode cc pc = .ok (.invokevirtual index, 3)) (hf : cells + mc ≤ R.cells ∧ slots + ms ≤ R.slots)
    (kk : ∀ (r : UInt64) (u : S9) (H1 : Heap) (locs1 : List Loc), post r u → va_P D vwCl (wc' u) H1 → va_D A (wc' u) → va_S A s.heap H1 locs1 → W p l e R s m args below meth c H1 locs1 (cells + mc) (slots + ms) Q (F0 m (pc + 3) ls (.double r :: rest))) : W p l e R s m args below meth c H locs cells slots Q (F0 m pc ls st0) := by
  obtain ⟨fs, he⟩ := he
  exact cV_d (r0 := (RX8, TX8, 10)) (ci := 8) (q0 := X.length) (fs := fs) CF hK hN hA hS (cut_id hP hD) hM cw rfl (he_app he) hn hsize hstack hW hdg hf kk
theorem cBz_i {t0 : Nat} {S9 : Type} {post : Int32 → S9 → Prop} {wc' : S9 → va_W} (hZ : va_Z RX8 "GREATEST_VALUES" "[I" (.ref t0) A s s.heap) (hT : va_T .int t0 3 (fun j => .int (gvI j)) A s s.heap) (he : ∃ fs, XB[0]? = some (b, .inr (8, fs))) (CF : CallFix p m c cc nL s args Ts own) (hK : va_K D vwCl ty s) (hN : NS s) (hA : ∀ q : Nat, s.heap.size ≤ q → A q) (hS : va_S A s.heap H locs) (hP : va_P D vwCl (X ++ XB) H) (hD : va_D A (X ++ XB))
    (hM : Met l y wsy rm (va_Pc (.ref b :: As) (wz t0 D ty A (X ++ XB))) (va_Qi post (fun u t => wq D A (wc' u) t) A) mc ms A) (cw : CallW R s args own RX8 index y bytes maxL ret wsy rm mc ms n)
    (hn : As.length = n) (hsize : ls.size = nL) (hstack : st0 = As.reverse ++ .ref b :: rest) (hW : (rest.map fun v => v.category).sum ≤ 8) (hdg : decode cc pc = .ok (.invokevirtual index, 3)) (hf : cells + mc ≤ R.cells ∧ slots + ms ≤ R.slots)
    (kk : ∀ (r : Int32) (u : S9) (H1 : Heap) (locs1 : List Loc), post r u → va_P D vwCl (wc' u) H1 → va_D A (wc' u) → va_S A s.heap H1 locs1 → W p l e R s m args below meth c H1 locs1 (cells + mc) (slots + ms) Q (F0 m (pc + 3) ls (.int r :: rest))) : W p l e R s m args below meth c H locs cells slots Q (F0 m pc ls st0) := by
  obtain ⟨fs, he⟩ := he
  exact va_calli (va_runV (g := F0 m pc ls st0) CF hM cw ⟨wz_blind, va_recv hK hP (show vwCl[8]? = some (RX8, TX8, 10) from rfl) (he_app he), fun U hU hW2 => ⟨rfl, wd_of hK hN hA hP hD hS hU hW2, by rw [hU]; exact (va_Z.moved hW2.alike hZ).kept hS.2.1, by rw [hU]; exact (va_T.moved hW2.alike hT).kept hS.2.1⟩⟩ rfl hn hsize hstack (lv_room hW) hdg hf) hS (fun _ _ h => h) (fun _ h => h)
    (fun r u t H1 locs1 ht _ hp hB _ _ hS1 => kk r u H1 locs1 hp (ht ▸ hB.1) hB.2 hS1)
theorem cSz_i {t0 : Nat} {S9 : Type} {post : Int32 → S9 → Prop} {wc' : S9 → va_W} (hZ : va_Z RX8 "GREATEST_VALUES" "[I" (.ref t0) A s s.heap) (hT : va_T .int t0 3 (fun j => .int (gvI j)) A s s.heap) (CF : CallFix p m c cc nL s args Ts own) (hK : va_K D vwCl ty s) (hN : NS s) (hA : ∀ q : Nat, s.heap.size ≤ q → A q) (hS : va_S A s.heap H locs) (hC : cutw D A w wc H)
    (hM : Met l y wsy rm (va_Pc As (wz t0 D ty A wc)) (va_Qi post (fun u t => wq D A (wc' u) t) A) mc ms A) (cw : CallB R s args own index y bytes maxL ret wsy rm mc ms n ∧ (Cond.static y).before args s = true)
    (hn : As.length = n) (hsize : ls.size = nL) (hstack : st0 = As.reverse ++ rest) (hW : (rest.map fun v => v.category).sum ≤ 8) (hdg : decode cc pc = .ok (.invokestatic index, 3)) (hf : cells + mc ≤ R.cells ∧ slots + ms ≤ R.slots)
    (kk : ∀ (r : Int32) (u : S9) (H1 : Heap) (locs1 : List Loc), post r u → va_P D vwCl (wc' u) H1 → va_D A (wc' u) → va_S A s.heap H1 locs1 → W p l e R s m args below meth c H1 locs1 (cells + mc) (slots + ms) Q (F0 m (pc + 3) ls (.int r :: rest))) : W p l e R s m args below meth c H locs cells slots Q (F0 m pc ls st0) :=
  va_calli (va_runS (g := F0 m pc ls st0) CF hM cw ⟨wz_blind, fun U hU hW2 => ⟨rfl, wd_of hK hN hA hC.1 hC.2 hS hU hW2, by rw [hU]; exact (va_Z.moved hW2.alike hZ).kept hS.2.1, by rw [hU]; exact (va_T.moved hW2.alike hT).kept hS.2.1⟩⟩ rfl hn hsize hstack (lv_room hW) hdg hf) hS (fun _ _ h => h) (fun _ h => h)
    (fun r u t H1 locs1 ht _ hp hB _ _ hS1 => kk r u H1 locs1 hp (ht ▸ hB.1) hB.2 hS1)
def wk (b0 L : Nat) (xs : Nat → Int32) (D : va_G) (ty : List (ClassId × FieldType)) (A : Nat → Prop) (ws : va_W) (U : State) : Prop := wd D ty A ws U ∧ va_X b0 L xs U U.heap
theorem wk_blind {b0 L : Nat} {xs : Nat → Int32} {ws : va_W} {av : List Value} : FrameBlind (va_Pc av (wk b0 L xs D ty A ws)) := fun a U g mk q => ⟨q.1, (wd_blind (av := av) a U g mk ⟨q.1, q.2.1⟩).2, va_X.moved (u := U) (U := U.calling g mk a) (Vm.Alike.refl U.vm) q.2.2⟩
theorem cSk_i {b0 L : Nat} {xs : Nat → Int32} {S9 : Type} {post : Int32 → S9 → Prop} {wc' : S9 → va_W} (hXs : va_X b0 L xs s s.heap) (hbl : b0 < s.heap.size) (hbA : ¬ A b0) (CF : CallFix p m c cc nL s args Ts own) (hK : va_K D vwCl ty s) (hN : NS s) (hA : ∀ q : Nat, s.heap.size ≤ q → A q) (hS : va_S A s.heap H locs) (hC : cutw D A w wc H)
    (hM : Met l y wsy rm (va_Pc As (wk b0 L xs D ty A wc)) (va_Qi post (fun u t => wq D A (wc' u) t) A) mc ms A) (cw : CallB R s args own index y bytes maxL ret wsy rm mc ms n ∧ (Cond.static y).before args s = true)
    (hn : As.length = n) (hsize : ls.size = nL) (hstack : st0 = As.reverse ++ rest) (hW : (rest.map fun v => v.category).sum ≤ 8) (hdg : decode cc pc = .ok (.invokestatic index, 3)) (hf : cells + mc ≤ R.cells ∧ slots + ms ≤ R.slots)
    (kk : ∀ (r : Int32) (u : S9) (H1 : Heap) (locs1 : List Loc), post r u → va_P D vwCl (wc' u) H1 → va_D A (wc' u) → va_S A s.heap H1 locs1 → W p l e R s m args below meth c H1 locs1 (cells + mc) (slots + ms) Q (F0 m (pc + 3) ls (.int r :: rest))) : W p l e R s m args below meth c H locs cells slots Q (F0 m pc ls st0) :=
  va_calli (va_runS (g := F0 m pc ls st0) CF hM cw ⟨wk_blind, fun U hU hW2 => ⟨rfl, wd_of hK hN hA hC.1 hC.2 hS hU hW2, by rw [hU]; exact (va_X.moved hW2.alike hXs).kept (hS.2.1 b0 hbl hbA)⟩⟩ rfl hn hsize hstack (lv_room hW) hdg hf) hS (fun _ _ h => h) (fun _ h => h)
    (fun r u t H1 locs1 ht _ hp hB _ _ hS1 => kk r u H1 locs1 hp (ht ▸ hB.1) hB.2 hS1)
end Calls70
theorem nI_lt0 {a b : Nat} (ha : a < 2 ^ 31) (hb : b < 2 ^ 31) (h : b ≤ a) : ¬ nI a < nI b := fun q => by have := (nI_ltI ha hb).mp q; omega
theorem nI_ltt {a b : Nat} (ha : a < 2 ^ 31) (hb : b < 2 ^ 31) (h : a < b) : nI a < nI b := (nI_ltI ha hb).mpr h
theorem nI_let {a b : Nat} (ha : a < 2 ^ 31) (hb : b < 2 ^ 31) (h : a ≤ b) : nI a ≤ nI b := (nI_leI ha hb).mpr h
theorem nI_len {a b : Nat} (ha : a < 2 ^ 31) (hb : b < 2 ^ 31) (h : b < a) : ¬ nI a ≤ nI b := fun q => by have := (nI_leI ha hb).mp q; omega
theorem nI_nee {a b : Nat} (ha : a < 2 ^ 31) (hb : b < 2 ^ 31) (h : a ≠ b) : ¬ nI a = nI b := fun q => h (nI_inj ha hb q)
theorem dist1 {x y k : Nat} (h : y = x + k) : (nI y - nI x) * 1 = nI k := by
  rw [h, Int32.mul_one, pk_sub (by omega), show x + k - x = k by omega]
theorem dist2 {x y k : Nat} (h : x = y + k) : (nI y - nI x) * (-1) = nI k := by
  rw [Int32.mul_neg, Int32.mul_one, Int32.neg_sub, h, pk_sub (by omega), show y + k - y = k by omega]
theorem gem1 {a : Nat} (ha : a < 2 ^ 31) : ¬ nI a ≤ -1 := fun q => by
  rw [Int32.le_iff_toInt_le, nI_toInt ha] at q
  have e : (-1 : Int32).toInt = -1 := by decide
  rw [e] at q
  omega
theorem own_S {S : KS} {r c : Nat} (hc : c < 20) (hr : r < 10) (h : stB (Bk S.1) (nI c) (nI r) = true) : lgN (SB (Bk S.1)) (20 * r + c) < nS S := (lgN_lt (by omega) (by rw [SB_rc hc]; exact h)).1
set_option maxHeartbeats 4000000 in
set_option maxRecDepth 100000 in
theorem l_low (l : Launch) (D : va_G) (cI cZ cW cJ : ClassId) (A : Nat → Prop) (X : va_W) (xv : Int32) (nn : Nat) (hnn : 1 ≤ nn ∧ nn < 1000) : Met l yL_low wsL_low ({ frames := 0, cells := 0, slots := 0, locals := 0 }) (va_Pc [.int xv, .int (nI nn)] (wd D (tyL cI cZ cW cJ) A (X))) (va_Qi (fun (r : Int32) (u : Nat) => u < nn ∧ r = nI u) (fun (u : Nat) t => wq D A (X) t) A) 0 0 A := by
  refine Met.ofW (cc := cL_low) (maxL := 2) (ret := (some .int)) (by decide) rfl ?_
  intro p e s m args below meth c s₁ B hml hv
  obtain ⟨rfl, hsz9, hP, hK, hD, hN⟩ := hv
  have hx := B.exec
  have hb := B.bytes
  have hr := B.returns
  have hts := atoms_spec (ws := wsL_low) B.pre
  have hown : s.vm.findClass RL = some m.cls := findClass_of_methodNamed B.named
  have hlocks := B.notSynchronized
  have CF : CallFix p m c cL_low 2 s _ wsL_low RL := ⟨hx, hb, hml, hown, hts⟩
  have hA : ∀ q : Nat, s.heap.size ≤ q → A q := hsz9
  have hS : va_S A s.heap s.heap [] := va_S.rf
  have hl := lv_entry ([.int xv, .int (nI nn)]) (n := 2) (Nat.le_of_ble_eq_true rfl)
  rw [lg_entry_eq]
  generalize (lg_sl ([.int xv, .int (nI nn)]) ++ List.replicate (2 - (lg_sl ([.int xv, .int (nI nn)])).length) Slot.unset).toArray = ls at hl ⊢
  have hl : lv_has ls 2 [(0, .int xv), (1, .int (nI nn))] := hl
  show W p l e ({ frames := 0, cells := 0, slots := 0, locals := 0 } : Room) s m (([.int xv, .int (nI nn)] : List Value).toArray) below meth c s.heap [] 0 0 (MQ below (va_Qi (fun (r : Int32) (u : Nat) => u < nn ∧ r = nI u) (fun (u : Nat) t => wq D A (X) t) A) (([.int xv, .int (nI nn)] : List Value).toArray) s 0 0 A) (F0 m 0 ls [])
  refine lv_iload_n hx hb dL_low_0 rfl (lv_at hl 0 rfl) ?_
  refine lv_ldc (v := 2147483647) hx hb hown (hts (.constant RL 9 (2147483647)) (List.mem_of_getElem? (i := 1) rfl)) dL_low_1 ?_
  refine lv_iand hx hb dL_low_3 ?_
  refine lv_iload_n hx hb dL_low_4 rfl (lv_at hl 1 rfl) ?_
  refine lv_irem hx hb dL_low_5 (nI_ne0 (by omega) (by omega)) ?_
  refine top_i (y := (nI (xv.toBitVec.toNat % 2 ^ 31 % nn))) (by rw [pk_and xv 31 (by decide)]; exact pk_rem (Nat.mod_lt _ (by decide)) (by omega) (by omega)) ?_
  exact W.iret (v := (nI (xv.toBitVec.toNat % 2 ^ 31 % nn))) hx hb hr (fun t9 ht9 hW9 => ⟨⟨(nI (xv.toBitVec.toNat % 2 ^ 31 % nn)), (xv.toBitVec.toNat % 2 ^ 31 % nn), rfl, ⟨Nat.mod_lt _ (by omega), rfl⟩, by rw [ht9]; exact hP, hD⟩, hS.F ht9⟩) hS.2.2 dL_low_6
set_option maxHeartbeats 4000000 in
set_option maxRecDepth 100000 in
theorem l_cell (l : Launch) (D : va_G) (cI cZ cW cJ : ClassId) (A : Nat → Prop) (X : va_W) (b L k : Nat) (xs : Nat → Int32) (hk : k < 1000) (hL : L ≤ 260) (hbA : ¬ A b) : Met l yL_cell wsL_cell ({ frames := 0, cells := 0, slots := 0, locals := 0 }) (va_Pc [.ref b, .int (nI k)] (wk b L xs D (tyL cI cZ cW cJ) A (X))) (va_Qi (fun (r : Int32) (u : Unit) => True) (fun (u : Unit) t => wq D A (X) t) A) 0 0 A := by
  refine Met.ofW (cc := cL_cell) (maxL := 2) (ret := (some .int)) (by decide) rfl ?_
  intro p e s m args below meth c s₁ B hml hv
  obtain ⟨rfl, ⟨hsz9, hP, hK, hD, hN⟩, hXs⟩ := hv
  have hbl : b < s.heap.size := by
    obtain ⟨scr, h9, -⟩ := id hXs
    exact (Array.getElem?_eq_some_iff.mp h9).1
  have hx := B.exec
  have hb := B.bytes
  have hr := B.returns
  have hts := atoms_spec (ws := wsL_cell) B.pre
  have hown : s.vm.findClass RL = some m.cls := findClass_of_methodNamed B.named
  have hlocks := B.notSynchronized
  have CF : CallFix p m c cL_cell 2 s _ wsL_cell RL := ⟨hx, hb, hml, hown, hts⟩
  have hA : ∀ q : Nat, s.heap.size ≤ q → A q := hsz9
  have hS : va_S A s.heap s.heap [] := va_S.rf
  have hl := lv_entry ([.ref b, .int (nI k)]) (n := 2) (Nat.le_of_ble_eq_true rfl)
  rw [lg_entry_eq]
  generalize (lg_sl ([.ref b, .int (nI k)]) ++ List.replicate (2 - (lg_sl ([.ref b, .int (nI k)])).length) Slot.unset).toArray = ls at hl ⊢
  have hl : lv_has ls 2 [(0, .ref b), (1, .int (nI k))] := hl
  show W p l e ({ frames := 0, cells := 0, slots := 0, locals := 0 } : Room) s m (([.ref b, .int (nI k)] : List Value).toArray) below meth c s.heap [] 0 0 (MQ below (va_Qi (fun (r : Int32) (u : Unit) => True) (fun (u : Unit) t => wq D A (X) t) A) (([.ref b, .int (nI k)] : List Value).toArray) s 0 0 A) (F0 m 0 ls [])
  refine lv_iload_n hx hb dL_cell_0 rfl (lv_at hl 1 rfl) ?_
  refine lv_aload_n hx hb dL_cell_1 rfl (lv_at hl 0 rfl) ?_
  refine va_slen hx hb hXs hbl hbA hS dL_cell_2 ?_
  refine lv_icmp_ge (tgt := 12) hx hb dL_cell_3 (by decide) (fun c_3 => ?_) (fun c_3 => ?_)
  · refine lv_ldc (v := 763619767) hx hb hown (hts (.constant RL 7 (763619767)) (List.mem_of_getElem? (i := 1) rfl)) dL_cell_12 ?_
    refine lv_iload_n hx hb dL_cell_14 rfl (lv_at hl 1 rfl) ?_
    refine lv_iconst (v := 5) hx hb dL_cell_15 (by decide) ?_
    refine lv_iadd hx hb dL_cell_16 ?_
    refine top_i (y := (nI (k + 5))) (nI_add k 5) ?_
    refine lv_imul hx hb dL_cell_17 ?_
    refine top_i (y := (nI (763619767 * (k + 5)))) (pk_mul 763619767 (k + 5)) ?_
    refine lv_ldc (v := 921806285) hx hb hown (hts (.constant RL 8 (921806285)) (List.mem_of_getElem? (i := 2) rfl)) dL_cell_18 ?_
    refine lv_iadd hx hb dL_cell_20 ?_
    refine top_i (y := (nI ((763619767 * (k + 5)) + 921806285))) (nI_add (763619767 * (k + 5)) 921806285) ?_
    exact W.iret (v := (nI ((763619767 * (k + 5)) + 921806285))) hx hb hr (fun t9 ht9 hW9 => ⟨⟨(nI ((763619767 * (k + 5)) + 921806285)), (), rfl, trivial, by rw [ht9]; exact hP, hD⟩, hS.F ht9⟩) hS.2.2 dL_cell_21
  · refine lv_aload_n hx hb dL_cell_6 rfl (lv_at hl 0 rfl) ?_
    refine lv_iload_n hx hb dL_cell_7 rfl (lv_at hl 1 rfl) ?_
    refine va_sld hx hb hXs hbl hbA hS (vp_ix (e := k) rfl (Nat.lt_of_not_le (fun q => c_3 (nI_let (by omega) (by omega) q))) (by omega)) dL_cell_8 ?_
    refine top_i (y := (xs k)) (congrArg xs (nI_clamp (by omega))) ?_
    refine lv_goto (tgt := 21) hx hb dL_cell_9 (by decide) ?_
    exact W.iret (v := (xs k)) hx hb hr (fun t9 ht9 hW9 => ⟨⟨(xs k), (), rfl, trivial, by rw [ht9]; exact hP, hD⟩, hS.F ht9⟩) hS.2.2 dL_cell_21
set_option maxHeartbeats 4000000 in
set_option maxRecDepth 100000 in
theorem l_isCell (l : Launch) (D : va_G) (cI cZ cW cJ : ClassId) (A : Nat → Prop) (X : va_W) (xo : Nat) (S : KS) (XB : va_W) (xc xr : Nat) (hJ : YJ cI cZ cW xo S XB) (hc : xc < 20) (hr9 : xr < 10) : Met l yL_isCell wsL_isCell ({ frames := 5, cells := 0, slots := 0, locals := 115 }) (va_Pc [.ref xo, .int (nI xc), .int (nI xr)] (wd D (tyL cI cZ cW cJ) A ((X ++ XB)))) (va_Qi (fun (r : Int32) (u : va_W) => r = 1 ∧ YJ cI cZ cW xo S u) (fun (u : va_W) t => wq D A ((X ++ u)) t) A) 0 0 A := by
  refine Met.ofW (cc := cL_isCell) (maxL := 8) (ret := (some .boolean)) (by decide) rfl ?_
  intro p e s m args below meth c s₁ B hml hv
  obtain ⟨rfl, hsz9, hP, hK, hD, hN⟩ := hv
  have hx := B.exec
  have hb := B.bytes
  have hr := B.returns
  have hts := atoms_spec (ws := wsL_isCell) B.pre
  have hown : s.vm.findClass RL = some m.cls := findClass_of_methodNamed B.named
  have hlocks := B.notSynchronized
  have CF : CallFix p m c cL_isCell 8 s _ wsL_isCell RL := ⟨hx, hb, hml, hown, hts⟩
  have hA : ∀ q : Nat, s.heap.size ≤ q → A q := hsz9
  have hS : va_S A s.heap s.heap [] := va_S.rf
  have hl := lv_entry ([.ref xo, .int (nI xc), .int (nI xr)]) (n := 8) (Nat.le_of_ble_eq_true rfl)
  rw [lg_entry_eq]
  generalize (lg_sl ([.ref xo, .int (nI xc), .int (nI xr)]) ++ List.replicate (8 - (lg_sl ([.ref xo, .int (nI xc), .int (nI xr)])).length) Slot.unset).toArray = ls at hl ⊢
  have hl : lv_has ls 8 [(0, .ref xo), (1, .int (nI xc)), (2, .int (nI xr))] := hl
  show W p l e ({ frames := 5, cells := 0, slots := 0, locals := 115 } : Room) s m (([.ref xo, .int (nI xc), .int (nI xr)] : List Value).toArray) below meth c s.heap [] 0 0 (MQ below (va_Qi (fun (r : Int32) (u : va_W) => r = 1 ∧ YJ cI cZ cW xo S u) (fun (u : va_W) t => wq D A ((X ++ u)) t) A) (([.ref xo, .int (nI xc), .int (nI xr)] : List Value).toArray) s 0 0 A) (F0 m 0 ls [])
  rcases isc (S := S) hc hr9 with ⟨h0, h1, h2, h3, h4⟩ | ⟨h0, h1, h2, h3, h4, h5, h6⟩ | ⟨g, g3, g4, hg, hg3, hg4, h0, h1, h2, h3, h4, (rfl | ⟨h5, h5b⟩), (rfl | ⟨h6, h7, h8⟩ | ⟨h6, h7, h8, h9⟩)⟩
  · skip
    refine lv_aload_n hx hb dL_isCell_0 rfl (lv_at hl 0 rfl) ?_
    refine lv_iload_n hx hb dL_isCell_1 rfl (lv_at hl 1 rfl) ?_
    refine lv_iload_n hx hb dL_isCell_2 rfl (lv_at hl 2 rfl) ?_
    refine lv_iconst (v := 0) hx hb dL_isCell_3 (by decide) ?_
    refine cB_i hJ.hd CF hK hN hA hS hP hD (b_cellOf l D cI cZ cW cJ A X xo S XB xc xr 0 (by omega) (by omega) (by decide) hJ) (cwV 3 hts gL_isCell_X8_cellOf rfl rfl rfl (by decide +kernel) ⟨Nat.le_of_ble_eq_true rfl, Nat.le_of_ble_eq_true rfl⟩) (As := [.int (nI xc), .int (nI xr), .int 0]) (rest := []) rfl hl.1 rfl (Nat.le_of_ble_eq_true rfl) dL_isCell_4 ⟨Nat.le_of_ble_eq_true rfl, Nat.le_of_ble_eq_true rfl⟩ (fun r_4 u_4 H locs hq hP hD hS => ?_)
    obtain ⟨hrv, hJ⟩ := hq
    subst hrv
    refine top_i (y := 1) h0 ?_
    refine lv_iconst (v := 1) hx hb dL_isCell_7 (by decide) ?_
    have c_8 : (1 : Int32) = 1 := rfl
    refine lv_icmp_ne (tgt := 15) hx hb dL_isCell_8 (by decide) (fun q => absurd c_8 q) (fun _ => ?_)
    refine lv_iconst (v := 1) hx hb dL_isCell_11 (by decide) ?_
    refine lv_goto (tgt := 16) hx hb dL_isCell_12 (by decide) ?_
    refine lv_istore_n (lv' := [(3, .int 1), (0, .ref xo), (1, .int (nI xc)), (2, .int (nI xr))]) hx hb dL_isCell_16 rfl hl (by decide) rfl (fun ls hl => ?_)
    refine lv_aload_n hx hb dL_isCell_17 rfl (lv_at hl 1 rfl) ?_
    refine lv_iload_n hx hb dL_isCell_18 rfl (lv_at hl 2 rfl) ?_
    refine lv_iload_n hx hb dL_isCell_19 rfl (lv_at hl 3 rfl) ?_
    refine lv_iconst (v := 1) hx hb dL_isCell_20 (by decide) ?_
    refine cB_i hJ.hd CF hK hN hA hS hP hD (b_cellOf l D cI cZ cW cJ A X xo S u_4 xc xr 1 (by omega) (by omega) (by decide) hJ) (cwV 3 hts gL_isCell_X8_cellOf rfl rfl rfl (by decide +kernel) ⟨Nat.le_of_ble_eq_true rfl, Nat.le_of_ble_eq_true rfl⟩) (As := [.int (nI xc), .int (nI xr), .int 1]) (rest := []) rfl hl.1 rfl (Nat.le_of_ble_eq_true rfl) dL_isCell_21 ⟨Nat.le_of_ble_eq_true rfl, Nat.le_of_ble_eq_true rfl⟩ (fun r_21 u_21 H locs hq hP hD hS => ?_)
    obtain ⟨hrv, hJ⟩ := hq
    subst hrv
    refine top_i (y := 0) h1 ?_
    refine lv_iconst (v := 1) hx hb dL_isCell_24 (by decide) ?_
    have c_25 : ¬ (0 : Int32) = 1 := by decide
    refine lv_icmp_ne (tgt := 32) hx hb dL_isCell_25 (by decide) (fun _ => ?_) (fun q => absurd q c_25)
    refine lv_iconst (v := 0) hx hb dL_isCell_32 (by decide) ?_
    refine lv_istore (lv' := [(4, .int 0), (3, .int 1), (0, .ref xo), (1, .int (nI xc)), (2, .int (nI xr))]) hx hb dL_isCell_33 hl (by decide) rfl (fun ls hl => ?_)
    refine lv_aload_n hx hb dL_isCell_35 rfl (lv_at hl 2 rfl) ?_
    refine lv_iload_n hx hb dL_isCell_36 rfl (lv_at hl 3 rfl) ?_
    refine lv_iload_n hx hb dL_isCell_37 rfl (lv_at hl 4 rfl) ?_
    refine lv_iconst (v := 2) hx hb dL_isCell_38 (by decide) ?_
    refine cB_i hJ.hd CF hK hN hA hS hP hD (b_cellOf l D cI cZ cW cJ A X xo S u_21 xc xr 2 (by omega) (by omega) (by decide) hJ) (cwV 3 hts gL_isCell_X8_cellOf rfl rfl rfl (by decide +kernel) ⟨Nat.le_of_ble_eq_true rfl, Nat.le_of_ble_eq_true rfl⟩) (As := [.int (nI xc), .int (nI xr), .int 2]) (rest := []) rfl hl.1 rfl (Nat.le_of_ble_eq_true rfl) dL_isCell_39 ⟨Nat.le_of_ble_eq_true rfl, Nat.le_of_ble_eq_true rfl⟩ (fun r_39 u_39 H locs hq hP hD hS => ?_)
    obtain ⟨hrv, hJ⟩ := hq
    subst hrv
    refine top_i (y := (-1)) h2 ?_
    refine lv_istore (lv' := [(5, .int (-1)), (4, .int 0), (3, .int 1), (0, .ref xo), (1, .int (nI xc)), (2, .int (nI xr))]) hx hb dL_isCell_42 hl (by decide) rfl (fun ls hl => ?_)
    refine lv_iload hx hb dL_isCell_44 (lv_at hl 1 rfl) ?_
    refine lv_iload_n hx hb dL_isCell_46 rfl (lv_at hl 2 rfl) ?_
    have c_47 : ¬ (1 : Int32) = 0 := by decide
    refine lv_if_ne (tgt := 71) hx hb dL_isCell_47 (by decide) (fun _ => ?_) (fun q => absurd q c_47)
    refine lv_iconst (v := 0) hx hb dL_isCell_71 (by decide) ?_
    have c_72 : (0 : Int32) = 0 := rfl
    refine lv_icmp_ne (tgt := 134) hx hb dL_isCell_72 (by decide) (fun q => absurd c_72 q) (fun _ => ?_)
    refine lv_iload hx hb dL_isCell_75 (lv_at hl 0 rfl) ?_
    have c_77 : ((-1) : Int32) < 0 := by decide
    refine lv_if_lt (tgt := 84) hx hb dL_isCell_77 (by decide) (fun _ => ?_) (fun q => absurd c_77 q)
    refine lv_iconst (v := 0) hx hb dL_isCell_84 (by decide) ?_
    refine lv_iload hx hb dL_isCell_85 (lv_at hl 1 rfl) ?_
    have c_87 : (0 : Int32) = 0 := rfl
    refine lv_icmp_ne (tgt := 134) hx hb dL_isCell_87 (by decide) (fun q => absurd c_87 q) (fun _ => ?_)
    refine lv_aload_n hx hb dL_isCell_90 rfl (lv_at hl 3 rfl) ?_
    refine lv_iload_n hx hb dL_isCell_91 rfl (lv_at hl 4 rfl) ?_
    refine lv_iload_n hx hb dL_isCell_92 rfl (lv_at hl 5 rfl) ?_
    refine lv_iconst (v := 3) hx hb dL_isCell_93 (by decide) ?_
    refine cB_i hJ.hd CF hK hN hA hS hP hD (b_cellOf l D cI cZ cW cJ A X xo S u_39 xc xr 3 (by omega) (by omega) (by decide) hJ) (cwV 3 hts gL_isCell_X8_cellOf rfl rfl rfl (by decide +kernel) ⟨Nat.le_of_ble_eq_true rfl, Nat.le_of_ble_eq_true rfl⟩) (As := [.int (nI xc), .int (nI xr), .int 3]) (rest := []) rfl hl.1 rfl (Nat.le_of_ble_eq_true rfl) dL_isCell_94 ⟨Nat.le_of_ble_eq_true rfl, Nat.le_of_ble_eq_true rfl⟩ (fun r_94 u_94 H locs hq hP hD hS => ?_)
    obtain ⟨hrv, hJ⟩ := hq
    subst hrv
    refine top_i (y := (-1)) h3 ?_
    have c_97 : ((-1) : Int32) < 0 := by decide
    refine lv_if_lt (tgt := 104) hx hb dL_isCell_97 (by decide) (fun _ => ?_) (fun q => absurd c_97 q)
    refine lv_iconst (v := 0) hx hb dL_isCell_104 (by decide) ?_
    refine lv_iload hx hb dL_isCell_105 (lv_at hl 1 rfl) ?_
    have c_107 : (0 : Int32) = 0 := rfl
    refine lv_icmp_ne (tgt := 134) hx hb dL_isCell_107 (by decide) (fun q => absurd c_107 q) (fun _ => ?_)
    refine lv_aload_n hx hb dL_isCell_110 rfl (lv_at hl 3 rfl) ?_
    refine lv_iload_n hx hb dL_isCell_111 rfl (lv_at hl 4 rfl) ?_
    refine lv_iload_n hx hb dL_isCell_112 rfl (lv_at hl 5 rfl) ?_
    refine lv_iconst (v := 4) hx hb dL_isCell_113 (by decide) ?_
    refine cB_i hJ.hd CF hK hN hA hS hP hD (b_cellOf l D cI cZ cW cJ A X xo S u_94 xc xr 4 (by omega) (by omega) (by decide) hJ) (cwV 3 hts gL_isCell_X8_cellOf rfl rfl rfl (by decide +kernel) ⟨Nat.le_of_ble_eq_true rfl, Nat.le_of_ble_eq_true rfl⟩) (As := [.int (nI xc), .int (nI xr), .int 4]) (rest := []) rfl hl.1 rfl (Nat.le_of_ble_eq_true rfl) dL_isCell_114 ⟨Nat.le_of_ble_eq_true rfl, Nat.le_of_ble_eq_true rfl⟩ (fun r_114 u_114 H locs hq hP hD hS => ?_)
    obtain ⟨hrv, hJ⟩ := hq
    subst hrv
    refine top_i (y := (-1)) h4 ?_
    have c_117 : ((-1) : Int32) < 0 := by decide
    refine lv_if_lt (tgt := 124) hx hb dL_isCell_117 (by decide) (fun _ => ?_) (fun q => absurd c_117 q)
    refine lv_iconst (v := 0) hx hb dL_isCell_124 (by decide) ?_
    refine lv_iload hx hb dL_isCell_125 (lv_at hl 1 rfl) ?_
    have c_127 : (0 : Int32) = 0 := rfl
    refine lv_icmp_ne (tgt := 134) hx hb dL_isCell_127 (by decide) (fun q => absurd c_127 q) (fun _ => ?_)
    refine lv_iconst (v := 1) hx hb dL_isCell_130 (by decide) ?_
    refine lv_goto (tgt := 135) hx hb dL_isCell_131 (by decide) ?_
    refine lv_istore (lv' := [(6, .int 1), (5, .int (-1)), (4, .int 0), (3, .int 1), (0, .ref xo), (1, .int (nI xc)), (2, .int (nI xr))]) hx hb dL_isCell_135 hl (by decide) rfl (fun ls hl => ?_)
    refine lv_iload hx hb dL_isCell_137 (lv_at hl 0 rfl) ?_
    have c_139 : ¬ (1 : Int32) = 0 := by decide
    refine lv_if_eq (tgt := 227) hx hb dL_isCell_139 (by decide) (fun q => absurd q c_139) (fun _ => ?_)
    refine lv_iload hx hb dL_isCell_142 (lv_at hl 2 rfl) ?_
    have c_144 : (0 : Int32) = 0 := rfl
    refine lv_if_eq (tgt := 227) hx hb dL_isCell_144 (by decide) (fun _ => ?_) (fun q => absurd c_144 q)
    refine lv_iload hx hb dL_isCell_227 (lv_at hl 0 rfl) ?_
    exact W.zret (v := 1) (ty := .boolean) hx hb hr (rfl) (fun t9 ht9 hW9 => ⟨⟨1, u_114, rfl, ⟨rfl, hJ⟩, by rw [ht9]; exact hP, hD⟩, hS.F ht9⟩) hS.2.2 dL_isCell_229
  · skip
    refine lv_aload_n hx hb dL_isCell_0 rfl (lv_at hl 0 rfl) ?_
    refine lv_iload_n hx hb dL_isCell_1 rfl (lv_at hl 1 rfl) ?_
    refine lv_iload_n hx hb dL_isCell_2 rfl (lv_at hl 2 rfl) ?_
    refine lv_iconst (v := 0) hx hb dL_isCell_3 (by decide) ?_
    refine cB_i hJ.hd CF hK hN hA hS hP hD (b_cellOf l D cI cZ cW cJ A X xo S XB xc xr 0 (by omega) (by omega) (by decide) hJ) (cwV 3 hts gL_isCell_X8_cellOf rfl rfl rfl (by decide +kernel) ⟨Nat.le_of_ble_eq_true rfl, Nat.le_of_ble_eq_true rfl⟩) (As := [.int (nI xc), .int (nI xr), .int 0]) (rest := []) rfl hl.1 rfl (Nat.le_of_ble_eq_true rfl) dL_isCell_4 ⟨Nat.le_of_ble_eq_true rfl, Nat.le_of_ble_eq_true rfl⟩ (fun r_4 u_4 H locs hq hP hD hS => ?_)
    obtain ⟨hrv, hJ⟩ := hq
    subst hrv
    refine top_i (y := 0) h0 ?_
    refine lv_iconst (v := 1) hx hb dL_isCell_7 (by decide) ?_
    have c_8 : ¬ (0 : Int32) = 1 := by decide
    refine lv_icmp_ne (tgt := 15) hx hb dL_isCell_8 (by decide) (fun _ => ?_) (fun q => absurd q c_8)
    refine lv_iconst (v := 0) hx hb dL_isCell_15 (by decide) ?_
    refine lv_istore_n (lv' := [(3, .int 0), (0, .ref xo), (1, .int (nI xc)), (2, .int (nI xr))]) hx hb dL_isCell_16 rfl hl (by decide) rfl (fun ls hl => ?_)
    refine lv_aload_n hx hb dL_isCell_17 rfl (lv_at hl 1 rfl) ?_
    refine lv_iload_n hx hb dL_isCell_18 rfl (lv_at hl 2 rfl) ?_
    refine lv_iload_n hx hb dL_isCell_19 rfl (lv_at hl 3 rfl) ?_
    refine lv_iconst (v := 1) hx hb dL_isCell_20 (by decide) ?_
    refine cB_i hJ.hd CF hK hN hA hS hP hD (b_cellOf l D cI cZ cW cJ A X xo S u_4 xc xr 1 (by omega) (by omega) (by decide) hJ) (cwV 3 hts gL_isCell_X8_cellOf rfl rfl rfl (by decide +kernel) ⟨Nat.le_of_ble_eq_true rfl, Nat.le_of_ble_eq_true rfl⟩) (As := [.int (nI xc), .int (nI xr), .int 1]) (rest := []) rfl hl.1 rfl (Nat.le_of_ble_eq_true rfl) dL_isCell_21 ⟨Nat.le_of_ble_eq_true rfl, Nat.le_of_ble_eq_true rfl⟩ (fun r_21 u_21 H locs hq hP hD hS => ?_)
    obtain ⟨hrv, hJ⟩ := hq
    subst hrv
    refine top_i (y := 0) h1 ?_
    refine lv_iconst (v := 1) hx hb dL_isCell_24 (by decide) ?_
    have c_25 : ¬ (0 : Int32) = 1 := by decide
    refine lv_icmp_ne (tgt := 32) hx hb dL_isCell_25 (by decide) (fun _ => ?_) (fun q => absurd q c_25)
    refine lv_iconst (v := 0) hx hb dL_isCell_32 (by decide) ?_
    refine lv_istore (lv' := [(4, .int 0), (3, .int 0), (0, .ref xo), (1, .int (nI xc)), (2, .int (nI xr))]) hx hb dL_isCell_33 hl (by decide) rfl (fun ls hl => ?_)
    refine lv_aload_n hx hb dL_isCell_35 rfl (lv_at hl 2 rfl) ?_
    refine lv_iload_n hx hb dL_isCell_36 rfl (lv_at hl 3 rfl) ?_
    refine lv_iload_n hx hb dL_isCell_37 rfl (lv_at hl 4 rfl) ?_
    refine lv_iconst (v := 2) hx hb dL_isCell_38 (by decide) ?_
    refine cB_i hJ.hd CF hK hN hA hS hP hD (b_cellOf l D cI cZ cW cJ A X xo S u_21 xc xr 2 (by omega) (by omega) (by decide) hJ) (cwV 3 hts gL_isCell_X8_cellOf rfl rfl rfl (by decide +kernel) ⟨Nat.le_of_ble_eq_true rfl, Nat.le_of_ble_eq_true rfl⟩) (As := [.int (nI xc), .int (nI xr), .int 2]) (rest := []) rfl hl.1 rfl (Nat.le_of_ble_eq_true rfl) dL_isCell_39 ⟨Nat.le_of_ble_eq_true rfl, Nat.le_of_ble_eq_true rfl⟩ (fun r_39 u_39 H locs hq hP hD hS => ?_)
    obtain ⟨hrv, hJ⟩ := hq
    subst hrv
    refine top_i (y := (-1)) h2 ?_
    refine lv_istore (lv' := [(5, .int (-1)), (4, .int 0), (3, .int 0), (0, .ref xo), (1, .int (nI xc)), (2, .int (nI xr))]) hx hb dL_isCell_42 hl (by decide) rfl (fun ls hl => ?_)
    refine lv_iload hx hb dL_isCell_44 (lv_at hl 1 rfl) ?_
    refine lv_iload_n hx hb dL_isCell_46 rfl (lv_at hl 2 rfl) ?_
    have c_47 : (0 : Int32) = 0 := rfl
    refine lv_if_ne (tgt := 71) hx hb dL_isCell_47 (by decide) (fun q => absurd c_47 q) (fun _ => ?_)
    refine lv_iload_n hx hb dL_isCell_50 rfl (lv_at hl 5 rfl) ?_
    have c_51 : ¬ ((nI xr) : Int32) = 0 := nI_ne0 (by omega) (by omega)
    refine lv_if_eq (tgt := 67) hx hb dL_isCell_51 (by decide) (fun q => absurd q c_51) (fun _ => ?_)
    refine lv_aload_n hx hb dL_isCell_54 rfl (lv_at hl 3 rfl) ?_
    refine lv_iload_n hx hb dL_isCell_55 rfl (lv_at hl 4 rfl) ?_
    refine lv_iload_n hx hb dL_isCell_56 rfl (lv_at hl 5 rfl) ?_
    refine lv_iconst (v := 1) hx hb dL_isCell_57 (by decide) ?_
    refine lv_isub hx hb dL_isCell_58 ?_
    refine top_i (y := (nI (xr - 1))) (pk_sub (a := xr) (b := 1) (by omega)) ?_
    refine lv_iconst (v := 0) hx hb dL_isCell_59 (by decide) ?_
    refine cB_i hJ.hd CF hK hN hA hS hP hD (b_cellOf l D cI cZ cW cJ A X xo S u_39 xc (xr - 1) 0 (by omega) (by omega) (by decide) hJ) (cwV 3 hts gL_isCell_X8_cellOf rfl rfl rfl (by decide +kernel) ⟨Nat.le_of_ble_eq_true rfl, Nat.le_of_ble_eq_true rfl⟩) (As := [.int (nI xc), .int (nI (xr - 1)), .int 0]) (rest := [.int 0]) rfl hl.1 rfl (Nat.le_of_ble_eq_true rfl) dL_isCell_60 ⟨Nat.le_of_ble_eq_true rfl, Nat.le_of_ble_eq_true rfl⟩ (fun r_60 u_60 H locs hq hP hD hS => ?_)
    obtain ⟨hrv, hJ⟩ := hq
    subst hrv
    refine top_i (y := 0) h6 ?_
    refine lv_iconst (v := 1) hx hb dL_isCell_63 (by decide) ?_
    have c_64 : ¬ (0 : Int32) = 1 := by decide
    refine lv_icmp_ne (tgt := 71) hx hb dL_isCell_64 (by decide) (fun _ => ?_) (fun q => absurd q c_64)
    refine lv_iconst (v := 0) hx hb dL_isCell_71 (by decide) ?_
    have c_72 : (0 : Int32) = 0 := rfl
    refine lv_icmp_ne (tgt := 134) hx hb dL_isCell_72 (by decide) (fun q => absurd c_72 q) (fun _ => ?_)
    refine lv_iload hx hb dL_isCell_75 (lv_at hl 0 rfl) ?_
    have c_77 : ((-1) : Int32) < 0 := by decide
    refine lv_if_lt (tgt := 84) hx hb dL_isCell_77 (by decide) (fun _ => ?_) (fun q => absurd c_77 q)
    refine lv_iconst (v := 0) hx hb dL_isCell_84 (by decide) ?_
    refine lv_iload hx hb dL_isCell_85 (lv_at hl 1 rfl) ?_
    have c_87 : (0 : Int32) = 0 := rfl
    refine lv_icmp_ne (tgt := 134) hx hb dL_isCell_87 (by decide) (fun q => absurd c_87 q) (fun _ => ?_)
    refine lv_aload_n hx hb dL_isCell_90 rfl (lv_at hl 3 rfl) ?_
    refine lv_iload_n hx hb dL_isCell_91 rfl (lv_at hl 4 rfl) ?_
    refine lv_iload_n hx hb dL_isCell_92 rfl (lv_at hl 5 rfl) ?_
    refine lv_iconst (v := 3) hx hb dL_isCell_93 (by decide) ?_
    refine cB_i hJ.hd CF hK hN hA hS hP hD (b_cellOf l D cI cZ cW cJ A X xo S u_60 xc xr 3 (by omega) (by omega) (by decide) hJ) (cwV 3 hts gL_isCell_X8_cellOf rfl rfl rfl (by decide +kernel) ⟨Nat.le_of_ble_eq_true rfl, Nat.le_of_ble_eq_true rfl⟩) (As := [.int (nI xc), .int (nI xr), .int 3]) (rest := []) rfl hl.1 rfl (Nat.le_of_ble_eq_true rfl) dL_isCell_94 ⟨Nat.le_of_ble_eq_true rfl, Nat.le_of_ble_eq_true rfl⟩ (fun r_94 u_94 H locs hq hP hD hS => ?_)
    obtain ⟨hrv, hJ⟩ := hq
    subst hrv
    refine top_i (y := (-1)) h3 ?_
    have c_97 : ((-1) : Int32) < 0 := by decide
    refine lv_if_lt (tgt := 104) hx hb dL_isCell_97 (by decide) (fun _ => ?_) (fun q => absurd c_97 q)
    refine lv_iconst (v := 0) hx hb dL_isCell_104 (by decide) ?_
    refine lv_iload hx hb dL_isCell_105 (lv_at hl 1 rfl) ?_
    have c_107 : (0 : Int32) = 0 := rfl
    refine lv_icmp_ne (tgt := 134) hx hb dL_isCell_107 (by decide) (fun q => absurd c_107 q) (fun _ => ?_)
    refine lv_aload_n hx hb dL_isCell_110 rfl (lv_at hl 3 rfl) ?_
    refine lv_iload_n hx hb dL_isCell_111 rfl (lv_at hl 4 rfl) ?_
    refine lv_iload_n hx hb dL_isCell_112 rfl (lv_at hl 5 rfl) ?_
    refine lv_iconst (v := 4) hx hb dL_isCell_113 (by decide) ?_
    refine cB_i hJ.hd CF hK hN hA hS hP hD (b_cellOf l D cI cZ cW cJ A X xo S u_94 xc xr 4 (by omega) (by omega) (by decide) hJ) (cwV 3 hts gL_isCell_X8_cellOf rfl rfl rfl (by decide +kernel) ⟨Nat.le_of_ble_eq_true rfl, Nat.le_of_ble_eq_true rfl⟩) (As := [.int (nI xc), .int (nI xr), .int 4]) (rest := []) rfl hl.1 rfl (Nat.le_of_ble_eq_true rfl) dL_isCell_114 ⟨Nat.le_of_ble_eq_true rfl, Nat.le_of_ble_eq_true rfl⟩ (fun r_114 u_114 H locs hq hP hD hS => ?_)
    obtain ⟨hrv, hJ⟩ := hq
    subst hrv
    refine top_i (y := (-1)) h4 ?_
    have c_117 : ((-1) : Int32) < 0 := by decide
    refine lv_if_lt (tgt := 124) hx hb dL_isCell_117 (by decide) (fun _ => ?_) (fun q => absurd c_117 q)
    refine lv_iconst (v := 0) hx hb dL_isCell_124 (by decide) ?_
    refine lv_iload hx hb dL_isCell_125 (lv_at hl 1 rfl) ?_
    have c_127 : (0 : Int32) = 0 := rfl
    refine lv_icmp_ne (tgt := 134) hx hb dL_isCell_127 (by decide) (fun q => absurd c_127 q) (fun _ => ?_)
    refine lv_iconst (v := 1) hx hb dL_isCell_130 (by decide) ?_
    refine lv_goto (tgt := 135) hx hb dL_isCell_131 (by decide) ?_
    refine lv_istore (lv' := [(6, .int 1), (5, .int (-1)), (4, .int 0), (3, .int 0), (0, .ref xo), (1, .int (nI xc)), (2, .int (nI xr))]) hx hb dL_isCell_135 hl (by decide) rfl (fun ls hl => ?_)
    refine lv_iload hx hb dL_isCell_137 (lv_at hl 0 rfl) ?_
    have c_139 : ¬ (1 : Int32) = 0 := by decide
    refine lv_if_eq (tgt := 227) hx hb dL_isCell_139 (by decide) (fun q => absurd q c_139) (fun _ => ?_)
    refine lv_iload hx hb dL_isCell_142 (lv_at hl 2 rfl) ?_
    have c_144 : (0 : Int32) = 0 := rfl
    refine lv_if_eq (tgt := 227) hx hb dL_isCell_144 (by decide) (fun _ => ?_) (fun q => absurd c_144 q)
    refine lv_iload hx hb dL_isCell_227 (lv_at hl 0 rfl) ?_
    exact W.zret (v := 1) (ty := .boolean) hx hb hr (rfl) (fun t9 ht9 hW9 => ⟨⟨1, u_114, rfl, ⟨rfl, hJ⟩, by rw [ht9]; exact hP, hD⟩, hS.F ht9⟩) hS.2.2 dL_isCell_229
  · skip
    refine lv_aload_n hx hb dL_isCell_0 rfl (lv_at hl 0 rfl) ?_
    refine lv_iload_n hx hb dL_isCell_1 rfl (lv_at hl 1 rfl) ?_
    refine lv_iload_n hx hb dL_isCell_2 rfl (lv_at hl 2 rfl) ?_
    refine lv_iconst (v := 0) hx hb dL_isCell_3 (by decide) ?_
    refine cB_i hJ.hd CF hK hN hA hS hP hD (b_cellOf l D cI cZ cW cJ A X xo S XB 0 0 0 (by decide) (by decide) (by decide) hJ) (cwV 3 hts gL_isCell_X8_cellOf rfl rfl rfl (by decide +kernel) ⟨Nat.le_of_ble_eq_true rfl, Nat.le_of_ble_eq_true rfl⟩) (As := [.int (nI 0), .int (nI 0), .int 0]) (rest := []) rfl hl.1 rfl (Nat.le_of_ble_eq_true rfl) dL_isCell_4 ⟨Nat.le_of_ble_eq_true rfl, Nat.le_of_ble_eq_true rfl⟩ (fun r_4 u_4 H locs hq hP hD hS => ?_)
    obtain ⟨hrv, hJ⟩ := hq
    subst hrv
    refine top_i (y := 0) h0 ?_
    refine lv_iconst (v := 1) hx hb dL_isCell_7 (by decide) ?_
    have c_8 : ¬ (0 : Int32) = 1 := by decide
    refine lv_icmp_ne (tgt := 15) hx hb dL_isCell_8 (by decide) (fun _ => ?_) (fun q => absurd q c_8)
    refine lv_iconst (v := 0) hx hb dL_isCell_15 (by decide) ?_
    refine lv_istore_n (lv' := [(3, .int 0), (0, .ref xo), (1, .int (nI 0)), (2, .int (nI 0))]) hx hb dL_isCell_16 rfl hl (by decide) rfl (fun ls hl => ?_)
    refine lv_aload_n hx hb dL_isCell_17 rfl (lv_at hl 1 rfl) ?_
    refine lv_iload_n hx hb dL_isCell_18 rfl (lv_at hl 2 rfl) ?_
    refine lv_iload_n hx hb dL_isCell_19 rfl (lv_at hl 3 rfl) ?_
    refine lv_iconst (v := 1) hx hb dL_isCell_20 (by decide) ?_
    refine cB_i hJ.hd CF hK hN hA hS hP hD (b_cellOf l D cI cZ cW cJ A X xo S u_4 0 0 1 (by decide) (by decide) (by decide) hJ) (cwV 3 hts gL_isCell_X8_cellOf rfl rfl rfl (by decide +kernel) ⟨Nat.le_of_ble_eq_true rfl, Nat.le_of_ble_eq_true rfl⟩) (As := [.int (nI 0), .int (nI 0), .int 1]) (rest := []) rfl hl.1 rfl (Nat.le_of_ble_eq_true rfl) dL_isCell_21 ⟨Nat.le_of_ble_eq_true rfl, Nat.le_of_ble_eq_true rfl⟩ (fun r_21 u_21 H locs hq hP hD hS => ?_)
    obtain ⟨hrv, hJ⟩ := hq
    subst hrv
    refine top_i (y := 1) h1 ?_
    refine lv_iconst (v := 1) hx hb dL_isCell_24 (by decide) ?_
    have c_25 : (1 : Int32) = 1 := rfl
    refine lv_icmp_ne (tgt := 32) hx hb dL_isCell_25 (by decide) (fun q => absurd c_25 q) (fun _ => ?_)
    refine lv_iconst (v := 1) hx hb dL_isCell_28 (by decide) ?_
    refine lv_goto (tgt := 33) hx hb dL_isCell_29 (by decide) ?_
    refine lv_istore (lv' := [(4, .int 1), (3, .int 0), (0, .ref xo), (1, .int (nI 0)), (2, .int (nI 0))]) hx hb dL_isCell_33 hl (by decide) rfl (fun ls hl => ?_)
    refine lv_aload_n hx hb dL_isCell_35 rfl (lv_at hl 2 rfl) ?_
    refine lv_iload_n hx hb dL_isCell_36 rfl (lv_at hl 3 rfl) ?_
    refine lv_iload_n hx hb dL_isCell_37 rfl (lv_at hl 4 rfl) ?_
    refine lv_iconst (v := 2) hx hb dL_isCell_38 (by decide) ?_
    refine cB_i hJ.hd CF hK hN hA hS hP hD (b_cellOf l D cI cZ cW cJ A X xo S u_21 0 0 2 (by decide) (by decide) (by decide) hJ) (cwV 3 hts gL_isCell_X8_cellOf rfl rfl rfl (by decide +kernel) ⟨Nat.le_of_ble_eq_true rfl, Nat.le_of_ble_eq_true rfl⟩) (As := [.int (nI 0), .int (nI 0), .int 2]) (rest := []) rfl hl.1 rfl (Nat.le_of_ble_eq_true rfl) dL_isCell_39 ⟨Nat.le_of_ble_eq_true rfl, Nat.le_of_ble_eq_true rfl⟩ (fun r_39 u_39 H locs hq hP hD hS => ?_)
    obtain ⟨hrv, hJ⟩ := hq
    subst hrv
    refine top_i (y := (nI g)) h2 ?_
    refine lv_istore (lv' := [(5, .int (nI g)), (4, .int 1), (3, .int 0), (0, .ref xo), (1, .int (nI 0)), (2, .int (nI 0))]) hx hb dL_isCell_42 hl (by decide) rfl (fun ls hl => ?_)
    refine lv_iload hx hb dL_isCell_44 (lv_at hl 1 rfl) ?_
    refine lv_iload_n hx hb dL_isCell_46 rfl (lv_at hl 2 rfl) ?_
    have c_47 : (0 : Int32) = 0 := rfl
    refine lv_if_ne (tgt := 71) hx hb dL_isCell_47 (by decide) (fun q => absurd c_47 q) (fun _ => ?_)
    refine lv_iload_n hx hb dL_isCell_50 rfl (lv_at hl 5 rfl) ?_
    have c_51 : ((nI 0) : Int32) = 0 := by decide
    refine lv_if_eq (tgt := 67) hx hb dL_isCell_51 (by decide) (fun _ => ?_) (fun q => absurd c_51 q)
    refine lv_iconst (v := 1) hx hb dL_isCell_67 (by decide) ?_
    refine lv_goto (tgt := 72) hx hb dL_isCell_68 (by decide) ?_
    have c_72 : (1 : Int32) = 1 := rfl
    refine lv_icmp_ne (tgt := 134) hx hb dL_isCell_72 (by decide) (fun q => absurd c_72 q) (fun _ => ?_)
    refine lv_iload hx hb dL_isCell_75 (lv_at hl 0 rfl) ?_
    have c_77 : ¬ ((nI g) : Int32) < 0 := nI_pos (by omega)
    refine lv_if_lt (tgt := 84) hx hb dL_isCell_77 (by decide) (fun q => absurd q c_77) (fun _ => ?_)
    refine lv_iconst (v := 1) hx hb dL_isCell_80 (by decide) ?_
    refine lv_goto (tgt := 85) hx hb dL_isCell_81 (by decide) ?_
    refine lv_iload hx hb dL_isCell_85 (lv_at hl 1 rfl) ?_
    have c_87 : (1 : Int32) = 1 := rfl
    refine lv_icmp_ne (tgt := 134) hx hb dL_isCell_87 (by decide) (fun q => absurd c_87 q) (fun _ => ?_)
    refine lv_aload_n hx hb dL_isCell_90 rfl (lv_at hl 3 rfl) ?_
    refine lv_iload_n hx hb dL_isCell_91 rfl (lv_at hl 4 rfl) ?_
    refine lv_iload_n hx hb dL_isCell_92 rfl (lv_at hl 5 rfl) ?_
    refine lv_iconst (v := 3) hx hb dL_isCell_93 (by decide) ?_
    refine cB_i hJ.hd CF hK hN hA hS hP hD (b_cellOf l D cI cZ cW cJ A X xo S u_39 0 0 3 (by decide) (by decide) (by decide) hJ) (cwV 3 hts gL_isCell_X8_cellOf rfl rfl rfl (by decide +kernel) ⟨Nat.le_of_ble_eq_true rfl, Nat.le_of_ble_eq_true rfl⟩) (As := [.int (nI 0), .int (nI 0), .int 3]) (rest := []) rfl hl.1 rfl (Nat.le_of_ble_eq_true rfl) dL_isCell_94 ⟨Nat.le_of_ble_eq_true rfl, Nat.le_of_ble_eq_true rfl⟩ (fun r_94 u_94 H locs hq hP hD hS => ?_)
    obtain ⟨hrv, hJ⟩ := hq
    subst hrv
    refine top_i (y := (nI g3)) h3 ?_
    have c_97 : ¬ ((nI g3) : Int32) < 0 := nI_pos (by omega)
    refine lv_if_lt (tgt := 104) hx hb dL_isCell_97 (by decide) (fun q => absurd q c_97) (fun _ => ?_)
    refine lv_iconst (v := 1) hx hb dL_isCell_100 (by decide) ?_
    refine lv_goto (tgt := 105) hx hb dL_isCell_101 (by decide) ?_
    refine lv_iload hx hb dL_isCell_105 (lv_at hl 1 rfl) ?_
    have c_107 : (1 : Int32) = 1 := rfl
    refine lv_icmp_ne (tgt := 134) hx hb dL_isCell_107 (by decide) (fun q => absurd c_107 q) (fun _ => ?_)
    refine lv_aload_n hx hb dL_isCell_110 rfl (lv_at hl 3 rfl) ?_
    refine lv_iload_n hx hb dL_isCell_111 rfl (lv_at hl 4 rfl) ?_
    refine lv_iload_n hx hb dL_isCell_112 rfl (lv_at hl 5 rfl) ?_
    refine lv_iconst (v := 4) hx hb dL_isCell_113 (by decide) ?_
    refine cB_i hJ.hd CF hK hN hA hS hP hD (b_cellOf l D cI cZ cW cJ A X xo S u_94 0 0 4 (by decide) (by decide) (by decide) hJ) (cwV 3 hts gL_isCell_X8_cellOf rfl rfl rfl (by decide +kernel) ⟨Nat.le_of_ble_eq_true rfl, Nat.le_of_ble_eq_true rfl⟩) (As := [.int (nI 0), .int (nI 0), .int 4]) (rest := []) rfl hl.1 rfl (Nat.le_of_ble_eq_true rfl) dL_isCell_114 ⟨Nat.le_of_ble_eq_true rfl, Nat.le_of_ble_eq_true rfl⟩ (fun r_114 u_114 H locs hq hP hD hS => ?_)
    obtain ⟨hrv, hJ⟩ := hq
    subst hrv
    refine top_i (y := (nI g4)) h4 ?_
    have c_117 : ¬ ((nI g4) : Int32) < 0 := nI_pos (by omega)
    refine lv_if_lt (tgt := 124) hx hb dL_isCell_117 (by decide) (fun q => absurd q c_117) (fun _ => ?_)
    refine lv_iconst (v := 1) hx hb dL_isCell_120 (by decide) ?_
    refine lv_goto (tgt := 125) hx hb dL_isCell_121 (by decide) ?_
    refine lv_iload hx hb dL_isCell_125 (lv_at hl 1 rfl) ?_
    have c_127 : (1 : Int32) = 1 := rfl
    refine lv_icmp_ne (tgt := 134) hx hb dL_isCell_127 (by decide) (fun q => absurd c_127 q) (fun _ => ?_)
    refine lv_iconst (v := 1) hx hb dL_isCell_130 (by decide) ?_
    refine lv_goto (tgt := 135) hx hb dL_isCell_131 (by decide) ?_
    refine lv_istore (lv' := [(6, .int 1), (5, .int (nI g)), (4, .int 1), (3, .int 0), (0, .ref xo), (1, .int (nI 0)), (2, .int (nI 0))]) hx hb dL_isCell_135 hl (by decide) rfl (fun ls hl => ?_)
    refine lv_iload hx hb dL_isCell_137 (lv_at hl 0 rfl) ?_
    have c_139 : ¬ (1 : Int32) = 0 := by decide
    refine lv_if_eq (tgt := 227) hx hb dL_isCell_139 (by decide) (fun q => absurd q c_139) (fun _ => ?_)
    refine lv_iload hx hb dL_isCell_142 (lv_at hl 2 rfl) ?_
    have c_144 : ¬ (1 : Int32) = 0 := by decide
    refine lv_if_eq (tgt := 227) hx hb dL_isCell_144 (by decide) (fun q => absurd q c_144) (fun _ => ?_)
    refine lv_iload_n hx hb dL_isCell_147 rfl (lv_at hl 5 rfl) ?_
    have c_148 : ((nI 0) : Int32) ≤ 0 := by decide
    refine lv_if_le (tgt := 227) hx hb dL_isCell_148 (by decide) (fun _ => ?_) (fun q => absurd c_148 q)
    refine lv_iload hx hb dL_isCell_227 (lv_at hl 0 rfl) ?_
    exact W.zret (v := 1) (ty := .boolean) hx hb hr (rfl) (fun t9 ht9 hW9 => ⟨⟨1, u_114, rfl, ⟨rfl, hJ⟩, by rw [ht9]; exact hP, hD⟩, hS.F ht9⟩) hS.2.2 dL_isCell_229
  · skip
    refine lv_aload_n hx hb dL_isCell_0 rfl (lv_at hl 0 rfl) ?_
    refine lv_iload_n hx hb dL_isCell_1 rfl (lv_at hl 1 rfl) ?_
    refine lv_iload_n hx hb dL_isCell_2 rfl (lv_at hl 2 rfl) ?_
    refine lv_iconst (v := 0) hx hb dL_isCell_3 (by decide) ?_
    refine cB_i hJ.hd CF hK hN hA hS hP hD (b_cellOf l D cI cZ cW cJ A X xo S XB xc 0 0 (by omega) (by decide) (by decide) hJ) (cwV 3 hts gL_isCell_X8_cellOf rfl rfl rfl (by decide +kernel) ⟨Nat.le_of_ble_eq_true rfl, Nat.le_of_ble_eq_true rfl⟩) (As := [.int (nI xc), .int (nI 0), .int 0]) (rest := []) rfl hl.1 rfl (Nat.le_of_ble_eq_true rfl) dL_isCell_4 ⟨Nat.le_of_ble_eq_true rfl, Nat.le_of_ble_eq_true rfl⟩ (fun r_4 u_4 H locs hq hP hD hS => ?_)
    obtain ⟨hrv, hJ⟩ := hq
    subst hrv
    refine top_i (y := 0) h0 ?_
    refine lv_iconst (v := 1) hx hb dL_isCell_7 (by decide) ?_
    have c_8 : ¬ (0 : Int32) = 1 := by decide
    refine lv_icmp_ne (tgt := 15) hx hb dL_isCell_8 (by decide) (fun _ => ?_) (fun q => absurd q c_8)
    refine lv_iconst (v := 0) hx hb dL_isCell_15 (by decide) ?_
    refine lv_istore_n (lv' := [(3, .int 0), (0, .ref xo), (1, .int (nI xc)), (2, .int (nI 0))]) hx hb dL_isCell_16 rfl hl (by decide) rfl (fun ls hl => ?_)
    refine lv_aload_n hx hb dL_isCell_17 rfl (lv_at hl 1 rfl) ?_
    refine lv_iload_n hx hb dL_isCell_18 rfl (lv_at hl 2 rfl) ?_
    refine lv_iload_n hx hb dL_isCell_19 rfl (lv_at hl 3 rfl) ?_
    refine lv_iconst (v := 1) hx hb dL_isCell_20 (by decide) ?_
    refine cB_i hJ.hd CF hK hN hA hS hP hD (b_cellOf l D cI cZ cW cJ A X xo S u_4 xc 0 1 (by omega) (by decide) (by decide) hJ) (cwV 3 hts gL_isCell_X8_cellOf rfl rfl rfl (by decide +kernel) ⟨Nat.le_of_ble_eq_true rfl, Nat.le_of_ble_eq_true rfl⟩) (As := [.int (nI xc), .int (nI 0), .int 1]) (rest := []) rfl hl.1 rfl (Nat.le_of_ble_eq_true rfl) dL_isCell_21 ⟨Nat.le_of_ble_eq_true rfl, Nat.le_of_ble_eq_true rfl⟩ (fun r_21 u_21 H locs hq hP hD hS => ?_)
    obtain ⟨hrv, hJ⟩ := hq
    subst hrv
    refine top_i (y := 1) h1 ?_
    refine lv_iconst (v := 1) hx hb dL_isCell_24 (by decide) ?_
    have c_25 : (1 : Int32) = 1 := rfl
    refine lv_icmp_ne (tgt := 32) hx hb dL_isCell_25 (by decide) (fun q => absurd c_25 q) (fun _ => ?_)
    refine lv_iconst (v := 1) hx hb dL_isCell_28 (by decide) ?_
    refine lv_goto (tgt := 33) hx hb dL_isCell_29 (by decide) ?_
    refine lv_istore (lv' := [(4, .int 1), (3, .int 0), (0, .ref xo), (1, .int (nI xc)), (2, .int (nI 0))]) hx hb dL_isCell_33 hl (by decide) rfl (fun ls hl => ?_)
    refine lv_aload_n hx hb dL_isCell_35 rfl (lv_at hl 2 rfl) ?_
    refine lv_iload_n hx hb dL_isCell_36 rfl (lv_at hl 3 rfl) ?_
    refine lv_iload_n hx hb dL_isCell_37 rfl (lv_at hl 4 rfl) ?_
    refine lv_iconst (v := 2) hx hb dL_isCell_38 (by decide) ?_
    refine cB_i hJ.hd CF hK hN hA hS hP hD (b_cellOf l D cI cZ cW cJ A X xo S u_21 xc 0 2 (by omega) (by decide) (by decide) hJ) (cwV 3 hts gL_isCell_X8_cellOf rfl rfl rfl (by decide +kernel) ⟨Nat.le_of_ble_eq_true rfl, Nat.le_of_ble_eq_true rfl⟩) (As := [.int (nI xc), .int (nI 0), .int 2]) (rest := []) rfl hl.1 rfl (Nat.le_of_ble_eq_true rfl) dL_isCell_39 ⟨Nat.le_of_ble_eq_true rfl, Nat.le_of_ble_eq_true rfl⟩ (fun r_39 u_39 H locs hq hP hD hS => ?_)
    obtain ⟨hrv, hJ⟩ := hq
    subst hrv
    refine top_i (y := (nI g)) h2 ?_
    refine lv_istore (lv' := [(5, .int (nI g)), (4, .int 1), (3, .int 0), (0, .ref xo), (1, .int (nI xc)), (2, .int (nI 0))]) hx hb dL_isCell_42 hl (by decide) rfl (fun ls hl => ?_)
    refine lv_iload hx hb dL_isCell_44 (lv_at hl 1 rfl) ?_
    refine lv_iload_n hx hb dL_isCell_46 rfl (lv_at hl 2 rfl) ?_
    have c_47 : (0 : Int32) = 0 := rfl
    refine lv_if_ne (tgt := 71) hx hb dL_isCell_47 (by decide) (fun q => absurd c_47 q) (fun _ => ?_)
    refine lv_iload_n hx hb dL_isCell_50 rfl (lv_at hl 5 rfl) ?_
    have c_51 : ((nI 0) : Int32) = 0 := by decide
    refine lv_if_eq (tgt := 67) hx hb dL_isCell_51 (by decide) (fun _ => ?_) (fun q => absurd c_51 q)
    refine lv_iconst (v := 1) hx hb dL_isCell_67 (by decide) ?_
    refine lv_goto (tgt := 72) hx hb dL_isCell_68 (by decide) ?_
    have c_72 : (1 : Int32) = 1 := rfl
    refine lv_icmp_ne (tgt := 134) hx hb dL_isCell_72 (by decide) (fun q => absurd c_72 q) (fun _ => ?_)
    refine lv_iload hx hb dL_isCell_75 (lv_at hl 0 rfl) ?_
    have c_77 : ¬ ((nI g) : Int32) < 0 := nI_pos (by omega)
    refine lv_if_lt (tgt := 84) hx hb dL_isCell_77 (by decide) (fun q => absurd q c_77) (fun _ => ?_)
    refine lv_iconst (v := 1) hx hb dL_isCell_80 (by decide) ?_
    refine lv_goto (tgt := 85) hx hb dL_isCell_81 (by decide) ?_
    refine lv_iload hx hb dL_isCell_85 (lv_at hl 1 rfl) ?_
    have c_87 : (1 : Int32) = 1 := rfl
    refine lv_icmp_ne (tgt := 134) hx hb dL_isCell_87 (by decide) (fun q => absurd c_87 q) (fun _ => ?_)
    refine lv_aload_n hx hb dL_isCell_90 rfl (lv_at hl 3 rfl) ?_
    refine lv_iload_n hx hb dL_isCell_91 rfl (lv_at hl 4 rfl) ?_
    refine lv_iload_n hx hb dL_isCell_92 rfl (lv_at hl 5 rfl) ?_
    refine lv_iconst (v := 3) hx hb dL_isCell_93 (by decide) ?_
    refine cB_i hJ.hd CF hK hN hA hS hP hD (b_cellOf l D cI cZ cW cJ A X xo S u_39 xc 0 3 (by omega) (by decide) (by decide) hJ) (cwV 3 hts gL_isCell_X8_cellOf rfl rfl rfl (by decide +kernel) ⟨Nat.le_of_ble_eq_true rfl, Nat.le_of_ble_eq_true rfl⟩) (As := [.int (nI xc), .int (nI 0), .int 3]) (rest := []) rfl hl.1 rfl (Nat.le_of_ble_eq_true rfl) dL_isCell_94 ⟨Nat.le_of_ble_eq_true rfl, Nat.le_of_ble_eq_true rfl⟩ (fun r_94 u_94 H locs hq hP hD hS => ?_)
    obtain ⟨hrv, hJ⟩ := hq
    subst hrv
    refine top_i (y := (nI g3)) h3 ?_
    have c_97 : ¬ ((nI g3) : Int32) < 0 := nI_pos (by omega)
    refine lv_if_lt (tgt := 104) hx hb dL_isCell_97 (by decide) (fun q => absurd q c_97) (fun _ => ?_)
    refine lv_iconst (v := 1) hx hb dL_isCell_100 (by decide) ?_
    refine lv_goto (tgt := 105) hx hb dL_isCell_101 (by decide) ?_
    refine lv_iload hx hb dL_isCell_105 (lv_at hl 1 rfl) ?_
    have c_107 : (1 : Int32) = 1 := rfl
    refine lv_icmp_ne (tgt := 134) hx hb dL_isCell_107 (by decide) (fun q => absurd c_107 q) (fun _ => ?_)
    refine lv_aload_n hx hb dL_isCell_110 rfl (lv_at hl 3 rfl) ?_
    refine lv_iload_n hx hb dL_isCell_111 rfl (lv_at hl 4 rfl) ?_
    refine lv_iload_n hx hb dL_isCell_112 rfl (lv_at hl 5 rfl) ?_
    refine lv_iconst (v := 4) hx hb dL_isCell_113 (by decide) ?_
    refine cB_i hJ.hd CF hK hN hA hS hP hD (b_cellOf l D cI cZ cW cJ A X xo S u_94 xc 0 4 (by omega) (by decide) (by decide) hJ) (cwV 3 hts gL_isCell_X8_cellOf rfl rfl rfl (by decide +kernel) ⟨Nat.le_of_ble_eq_true rfl, Nat.le_of_ble_eq_true rfl⟩) (As := [.int (nI xc), .int (nI 0), .int 4]) (rest := []) rfl hl.1 rfl (Nat.le_of_ble_eq_true rfl) dL_isCell_114 ⟨Nat.le_of_ble_eq_true rfl, Nat.le_of_ble_eq_true rfl⟩ (fun r_114 u_114 H locs hq hP hD hS => ?_)
    obtain ⟨hrv, hJ⟩ := hq
    subst hrv
    refine top_i (y := (nI g4)) h4 ?_
    have c_117 : ¬ ((nI g4) : Int32) < 0 := nI_pos (by omega)
    refine lv_if_lt (tgt := 124) hx hb dL_isCell_117 (by decide) (fun q => absurd q c_117) (fun _ => ?_)
    refine lv_iconst (v := 1) hx hb dL_isCell_120 (by decide) ?_
    refine lv_goto (tgt := 125) hx hb dL_isCell_121 (by decide) ?_
    refine lv_iload hx hb dL_isCell_125 (lv_at hl 1 rfl) ?_
    have c_127 : (1 : Int32) = 1 := rfl
    refine lv_icmp_ne (tgt := 134) hx hb dL_isCell_127 (by decide) (fun q => absurd c_127 q) (fun _ => ?_)
    refine lv_iconst (v := 1) hx hb dL_isCell_130 (by decide) ?_
    refine lv_goto (tgt := 135) hx hb dL_isCell_131 (by decide) ?_
    refine lv_istore (lv' := [(6, .int 1), (5, .int (nI g)), (4, .int 1), (3, .int 0), (0, .ref xo), (1, .int (nI xc)), (2, .int (nI 0))]) hx hb dL_isCell_135 hl (by decide) rfl (fun ls hl => ?_)
    refine lv_iload hx hb dL_isCell_137 (lv_at hl 0 rfl) ?_
    have c_139 : ¬ (1 : Int32) = 0 := by decide
    refine lv_if_eq (tgt := 227) hx hb dL_isCell_139 (by decide) (fun q => absurd q c_139) (fun _ => ?_)
    refine lv_iload hx hb dL_isCell_142 (lv_at hl 2 rfl) ?_
    have c_144 : ¬ (1 : Int32) = 0 := by decide
    refine lv_if_eq (tgt := 227) hx hb dL_isCell_144 (by decide) (fun q => absurd q c_144) (fun _ => ?_)
    refine lv_iload_n hx hb dL_isCell_147 rfl (lv_at hl 5 rfl) ?_
    have c_148 : ¬ ((nI xc) : Int32) ≤ 0 := nI_nle (by omega) (by omega)
    refine lv_if_le (tgt := 227) hx hb dL_isCell_148 (by decide) (fun q => absurd q c_148) (fun _ => ?_)
    refine lv_aload_n hx hb dL_isCell_151 rfl (lv_at hl 4 rfl) ?_
    refine lv_iload_n hx hb dL_isCell_152 rfl (lv_at hl 5 rfl) ?_
    refine lv_iconst (v := 1) hx hb dL_isCell_153 (by decide) ?_
    refine lv_isub hx hb dL_isCell_154 ?_
    refine top_i (y := (nI (xc - 1))) (pk_sub (a := xc) (b := 1) (by omega)) ?_
    refine lv_iload_n hx hb dL_isCell_155 rfl (lv_at hl 6 rfl) ?_
    refine lv_iconst (v := 2) hx hb dL_isCell_156 (by decide) ?_
    refine cB_i hJ.hd CF hK hN hA hS hP hD (b_cellOf l D cI cZ cW cJ A X xo S u_114 (xc - 1) 0 2 (by omega) (by decide) (by decide) hJ) (cwV 3 hts gL_isCell_X8_cellOf rfl rfl rfl (by decide +kernel) ⟨Nat.le_of_ble_eq_true rfl, Nat.le_of_ble_eq_true rfl⟩) (As := [.int (nI (xc - 1)), .int (nI 0), .int 2]) (rest := []) rfl hl.1 rfl (Nat.le_of_ble_eq_true rfl) dL_isCell_157 ⟨Nat.le_of_ble_eq_true rfl, Nat.le_of_ble_eq_true rfl⟩ (fun r_157 u_157 H locs hq hP hD hS => ?_)
    obtain ⟨hrv, hJ⟩ := hq
    subst hrv
    refine top_i (y := (nI g)) h8 ?_
    refine lv_istore (lv' := [(7, .int (nI g)), (6, .int 1), (5, .int (nI g)), (4, .int 1), (3, .int 0), (0, .ref xo), (1, .int (nI xc)), (2, .int (nI 0))]) hx hb dL_isCell_160 hl (by decide) rfl (fun ls hl => ?_)
    refine lv_iload hx hb dL_isCell_162 (lv_at hl 0 rfl) ?_
    have c_164 : ¬ ((nI g) : Int32) < 0 := nI_pos (by omega)
    refine lv_if_lt (tgt := 171) hx hb dL_isCell_164 (by decide) (fun q => absurd q c_164) (fun _ => ?_)
    refine lv_iconst (v := 1) hx hb dL_isCell_167 (by decide) ?_
    refine lv_goto (tgt := 172) hx hb dL_isCell_168 (by decide) ?_
    refine lv_aload_n hx hb dL_isCell_172 rfl (lv_at hl 5 rfl) ?_
    refine lv_iload_n hx hb dL_isCell_173 rfl (lv_at hl 6 rfl) ?_
    refine lv_iconst (v := 1) hx hb dL_isCell_174 (by decide) ?_
    refine lv_isub hx hb dL_isCell_175 ?_
    refine top_i (y := (nI (xc - 1))) (pk_sub (a := xc) (b := 1) (by omega)) ?_
    refine lv_iload_n hx hb dL_isCell_176 rfl (lv_at hl 7 rfl) ?_
    refine lv_iconst (v := 1) hx hb dL_isCell_177 (by decide) ?_
    refine cB_i hJ.hd CF hK hN hA hS hP hD (b_cellOf l D cI cZ cW cJ A X xo S u_157 (xc - 1) 0 1 (by omega) (by decide) (by decide) hJ) (cwV 3 hts gL_isCell_X8_cellOf rfl rfl rfl (by decide +kernel) ⟨Nat.le_of_ble_eq_true rfl, Nat.le_of_ble_eq_true rfl⟩) (As := [.int (nI (xc - 1)), .int (nI 0), .int 1]) (rest := [.int 1]) rfl hl.1 rfl (Nat.le_of_ble_eq_true rfl) dL_isCell_178 ⟨Nat.le_of_ble_eq_true rfl, Nat.le_of_ble_eq_true rfl⟩ (fun r_178 u_178 H locs hq hP hD hS => ?_)
    obtain ⟨hrv, hJ⟩ := hq
    subst hrv
    refine top_i (y := 1) h7 ?_
    refine lv_iconst (v := 1) hx hb dL_isCell_181 (by decide) ?_
    have c_182 : (1 : Int32) = 1 := rfl
    refine lv_icmp_ne (tgt := 189) hx hb dL_isCell_182 (by decide) (fun q => absurd c_182 q) (fun _ => ?_)
    refine lv_iconst (v := 1) hx hb dL_isCell_185 (by decide) ?_
    refine lv_goto (tgt := 190) hx hb dL_isCell_186 (by decide) ?_
    have c_190 : (1 : Int32) = 1 := rfl
    refine lv_icmp_ne (tgt := 224) hx hb dL_isCell_190 (by decide) (fun q => absurd c_190 q) (fun _ => ?_)
    refine lv_iload hx hb dL_isCell_193 (lv_at hl 0 rfl) ?_
    have c_195 : ¬ ((nI g) : Int32) < 0 := nI_pos (by omega)
    refine lv_if_lt (tgt := 205) hx hb dL_isCell_195 (by decide) (fun q => absurd q c_195) (fun _ => ?_)
    refine lv_iload hx hb dL_isCell_198 (lv_at hl 0 rfl) ?_
    refine lv_iload hx hb dL_isCell_200 (lv_at hl 2 rfl) ?_
    have c_202 : ((nI g) : Int32) = (nI g) := rfl
    refine lv_icmp_ne (tgt := 224) hx hb dL_isCell_202 (by decide) (fun q => absurd c_202 q) (fun _ => ?_)
    refine lv_iload hx hb dL_isCell_205 (lv_at hl 0 rfl) ?_
    have c_207 : (0 : Int32) ≤ (nI g) := Int32.not_lt.mp (nI_pos (by omega))
    refine lv_if_ge (tgt := 220) hx hb dL_isCell_207 (by decide) (fun _ => ?_) (fun q => absurd c_207 q)
    refine lv_iconst (v := 1) hx hb dL_isCell_220 (by decide) ?_
    refine lv_goto (tgt := 225) hx hb dL_isCell_221 (by decide) ?_
    refine lv_istore (lv' := [(6, .int 1), (7, .int (nI g)), (5, .int (nI g)), (4, .int 1), (3, .int 0), (0, .ref xo), (1, .int (nI xc)), (2, .int (nI 0))]) hx hb dL_isCell_225 hl (by decide) rfl (fun ls hl => ?_)
    refine lv_iload hx hb dL_isCell_227 (lv_at hl 0 rfl) ?_
    exact W.zret (v := 1) (ty := .boolean) hx hb hr (rfl) (fun t9 ht9 hW9 => ⟨⟨1, u_178, rfl, ⟨rfl, hJ⟩, by rw [ht9]; exact hP, hD⟩, hS.F ht9⟩) hS.2.2 dL_isCell_229
  · skip
    refine lv_aload_n hx hb dL_isCell_0 rfl (lv_at hl 0 rfl) ?_
    refine lv_iload_n hx hb dL_isCell_1 rfl (lv_at hl 1 rfl) ?_
    refine lv_iload_n hx hb dL_isCell_2 rfl (lv_at hl 2 rfl) ?_
    refine lv_iconst (v := 0) hx hb dL_isCell_3 (by decide) ?_
    refine cB_i hJ.hd CF hK hN hA hS hP hD (b_cellOf l D cI cZ cW cJ A X xo S XB xc 0 0 (by omega) (by decide) (by decide) hJ) (cwV 3 hts gL_isCell_X8_cellOf rfl rfl rfl (by decide +kernel) ⟨Nat.le_of_ble_eq_true rfl, Nat.le_of_ble_eq_true rfl⟩) (As := [.int (nI xc), .int (nI 0), .int 0]) (rest := []) rfl hl.1 rfl (Nat.le_of_ble_eq_true rfl) dL_isCell_4 ⟨Nat.le_of_ble_eq_true rfl, Nat.le_of_ble_eq_true rfl⟩ (fun r_4 u_4 H locs hq hP hD hS => ?_)
    obtain ⟨hrv, hJ⟩ := hq
    subst hrv
    refine top_i (y := 0) h0 ?_
    refine lv_iconst (v := 1) hx hb dL_isCell_7 (by decide) ?_
    have c_8 : ¬ (0 : Int32) = 1 := by decide
    refine lv_icmp_ne (tgt := 15) hx hb dL_isCell_8 (by decide) (fun _ => ?_) (fun q => absurd q c_8)
    refine lv_iconst (v := 0) hx hb dL_isCell_15 (by decide) ?_
    refine lv_istore_n (lv' := [(3, .int 0), (0, .ref xo), (1, .int (nI xc)), (2, .int (nI 0))]) hx hb dL_isCell_16 rfl hl (by decide) rfl (fun ls hl => ?_)
    refine lv_aload_n hx hb dL_isCell_17 rfl (lv_at hl 1 rfl) ?_
    refine lv_iload_n hx hb dL_isCell_18 rfl (lv_at hl 2 rfl) ?_
    refine lv_iload_n hx hb dL_isCell_19 rfl (lv_at hl 3 rfl) ?_
    refine lv_iconst (v := 1) hx hb dL_isCell_20 (by decide) ?_
    refine cB_i hJ.hd CF hK hN hA hS hP hD (b_cellOf l D cI cZ cW cJ A X xo S u_4 xc 0 1 (by omega) (by decide) (by decide) hJ) (cwV 3 hts gL_isCell_X8_cellOf rfl rfl rfl (by decide +kernel) ⟨Nat.le_of_ble_eq_true rfl, Nat.le_of_ble_eq_true rfl⟩) (As := [.int (nI xc), .int (nI 0), .int 1]) (rest := []) rfl hl.1 rfl (Nat.le_of_ble_eq_true rfl) dL_isCell_21 ⟨Nat.le_of_ble_eq_true rfl, Nat.le_of_ble_eq_true rfl⟩ (fun r_21 u_21 H locs hq hP hD hS => ?_)
    obtain ⟨hrv, hJ⟩ := hq
    subst hrv
    refine top_i (y := 1) h1 ?_
    refine lv_iconst (v := 1) hx hb dL_isCell_24 (by decide) ?_
    have c_25 : (1 : Int32) = 1 := rfl
    refine lv_icmp_ne (tgt := 32) hx hb dL_isCell_25 (by decide) (fun q => absurd c_25 q) (fun _ => ?_)
    refine lv_iconst (v := 1) hx hb dL_isCell_28 (by decide) ?_
    refine lv_goto (tgt := 33) hx hb dL_isCell_29 (by decide) ?_
    refine lv_istore (lv' := [(4, .int 1), (3, .int 0), (0, .ref xo), (1, .int (nI xc)), (2, .int (nI 0))]) hx hb dL_isCell_33 hl (by decide) rfl (fun ls hl => ?_)
    refine lv_aload_n hx hb dL_isCell_35 rfl (lv_at hl 2 rfl) ?_
    refine lv_iload_n hx hb dL_isCell_36 rfl (lv_at hl 3 rfl) ?_
    refine lv_iload_n hx hb dL_isCell_37 rfl (lv_at hl 4 rfl) ?_
    refine lv_iconst (v := 2) hx hb dL_isCell_38 (by decide) ?_
    refine cB_i hJ.hd CF hK hN hA hS hP hD (b_cellOf l D cI cZ cW cJ A X xo S u_21 xc 0 2 (by omega) (by decide) (by decide) hJ) (cwV 3 hts gL_isCell_X8_cellOf rfl rfl rfl (by decide +kernel) ⟨Nat.le_of_ble_eq_true rfl, Nat.le_of_ble_eq_true rfl⟩) (As := [.int (nI xc), .int (nI 0), .int 2]) (rest := []) rfl hl.1 rfl (Nat.le_of_ble_eq_true rfl) dL_isCell_39 ⟨Nat.le_of_ble_eq_true rfl, Nat.le_of_ble_eq_true rfl⟩ (fun r_39 u_39 H locs hq hP hD hS => ?_)
    obtain ⟨hrv, hJ⟩ := hq
    subst hrv
    refine top_i (y := (nI g)) h2 ?_
    refine lv_istore (lv' := [(5, .int (nI g)), (4, .int 1), (3, .int 0), (0, .ref xo), (1, .int (nI xc)), (2, .int (nI 0))]) hx hb dL_isCell_42 hl (by decide) rfl (fun ls hl => ?_)
    refine lv_iload hx hb dL_isCell_44 (lv_at hl 1 rfl) ?_
    refine lv_iload_n hx hb dL_isCell_46 rfl (lv_at hl 2 rfl) ?_
    have c_47 : (0 : Int32) = 0 := rfl
    refine lv_if_ne (tgt := 71) hx hb dL_isCell_47 (by decide) (fun q => absurd c_47 q) (fun _ => ?_)
    refine lv_iload_n hx hb dL_isCell_50 rfl (lv_at hl 5 rfl) ?_
    have c_51 : ((nI 0) : Int32) = 0 := by decide
    refine lv_if_eq (tgt := 67) hx hb dL_isCell_51 (by decide) (fun _ => ?_) (fun q => absurd c_51 q)
    refine lv_iconst (v := 1) hx hb dL_isCell_67 (by decide) ?_
    refine lv_goto (tgt := 72) hx hb dL_isCell_68 (by decide) ?_
    have c_72 : (1 : Int32) = 1 := rfl
    refine lv_icmp_ne (tgt := 134) hx hb dL_isCell_72 (by decide) (fun q => absurd c_72 q) (fun _ => ?_)
    refine lv_iload hx hb dL_isCell_75 (lv_at hl 0 rfl) ?_
    have c_77 : ¬ ((nI g) : Int32) < 0 := nI_pos (by omega)
    refine lv_if_lt (tgt := 84) hx hb dL_isCell_77 (by decide) (fun q => absurd q c_77) (fun _ => ?_)
    refine lv_iconst (v := 1) hx hb dL_isCell_80 (by decide) ?_
    refine lv_goto (tgt := 85) hx hb dL_isCell_81 (by decide) ?_
    refine lv_iload hx hb dL_isCell_85 (lv_at hl 1 rfl) ?_
    have c_87 : (1 : Int32) = 1 := rfl
    refine lv_icmp_ne (tgt := 134) hx hb dL_isCell_87 (by decide) (fun q => absurd c_87 q) (fun _ => ?_)
    refine lv_aload_n hx hb dL_isCell_90 rfl (lv_at hl 3 rfl) ?_
    refine lv_iload_n hx hb dL_isCell_91 rfl (lv_at hl 4 rfl) ?_
    refine lv_iload_n hx hb dL_isCell_92 rfl (lv_at hl 5 rfl) ?_
    refine lv_iconst (v := 3) hx hb dL_isCell_93 (by decide) ?_
    refine cB_i hJ.hd CF hK hN hA hS hP hD (b_cellOf l D cI cZ cW cJ A X xo S u_39 xc 0 3 (by omega) (by decide) (by decide) hJ) (cwV 3 hts gL_isCell_X8_cellOf rfl rfl rfl (by decide +kernel) ⟨Nat.le_of_ble_eq_true rfl, Nat.le_of_ble_eq_true rfl⟩) (As := [.int (nI xc), .int (nI 0), .int 3]) (rest := []) rfl hl.1 rfl (Nat.le_of_ble_eq_true rfl) dL_isCell_94 ⟨Nat.le_of_ble_eq_true rfl, Nat.le_of_ble_eq_true rfl⟩ (fun r_94 u_94 H locs hq hP hD hS => ?_)
    obtain ⟨hrv, hJ⟩ := hq
    subst hrv
    refine top_i (y := 0) h9 ?_
    have c_97 : ¬ (0 : Int32) < 0 := Int32.lt_irrefl
    refine lv_if_lt (tgt := 104) hx hb dL_isCell_97 (by decide) (fun q => absurd q c_97) (fun _ => ?_)
    refine lv_iconst (v := 1) hx hb dL_isCell_100 (by decide) ?_
    refine lv_goto (tgt := 105) hx hb dL_isCell_101 (by decide) ?_
    refine lv_iload hx hb dL_isCell_105 (lv_at hl 1 rfl) ?_
    have c_107 : (1 : Int32) = 1 := rfl
    refine lv_icmp_ne (tgt := 134) hx hb dL_isCell_107 (by decide) (fun q => absurd c_107 q) (fun _ => ?_)
    refine lv_aload_n hx hb dL_isCell_110 rfl (lv_at hl 3 rfl) ?_
    refine lv_iload_n hx hb dL_isCell_111 rfl (lv_at hl 4 rfl) ?_
    refine lv_iload_n hx hb dL_isCell_112 rfl (lv_at hl 5 rfl) ?_
    refine lv_iconst (v := 4) hx hb dL_isCell_113 (by decide) ?_
    refine cB_i hJ.hd CF hK hN hA hS hP hD (b_cellOf l D cI cZ cW cJ A X xo S u_94 xc 0 4 (by omega) (by decide) (by decide) hJ) (cwV 3 hts gL_isCell_X8_cellOf rfl rfl rfl (by decide +kernel) ⟨Nat.le_of_ble_eq_true rfl, Nat.le_of_ble_eq_true rfl⟩) (As := [.int (nI xc), .int (nI 0), .int 4]) (rest := []) rfl hl.1 rfl (Nat.le_of_ble_eq_true rfl) dL_isCell_114 ⟨Nat.le_of_ble_eq_true rfl, Nat.le_of_ble_eq_true rfl⟩ (fun r_114 u_114 H locs hq hP hD hS => ?_)
    obtain ⟨hrv, hJ⟩ := hq
    subst hrv
    refine top_i (y := (nI g4)) h4 ?_
    have c_117 : ¬ ((nI g4) : Int32) < 0 := nI_pos (by omega)
    refine lv_if_lt (tgt := 124) hx hb dL_isCell_117 (by decide) (fun q => absurd q c_117) (fun _ => ?_)
    refine lv_iconst (v := 1) hx hb dL_isCell_120 (by decide) ?_
    refine lv_goto (tgt := 125) hx hb dL_isCell_121 (by decide) ?_
    refine lv_iload hx hb dL_isCell_125 (lv_at hl 1 rfl) ?_
    have c_127 : (1 : Int32) = 1 := rfl
    refine lv_icmp_ne (tgt := 134) hx hb dL_isCell_127 (by decide) (fun q => absurd c_127 q) (fun _ => ?_)
    refine lv_iconst (v := 1) hx hb dL_isCell_130 (by decide) ?_
    refine lv_goto (tgt := 135) hx hb dL_isCell_131 (by decide) ?_
    refine lv_istore (lv' := [(6, .int 1), (5, .int (nI g)), (4, .int 1), (3, .int 0), (0, .ref xo), (1, .int (nI xc)), (2, .int (nI 0))]) hx hb dL_isCell_135 hl (by decide) rfl (fun ls hl => ?_)
    refine lv_iload hx hb dL_isCell_137 (lv_at hl 0 rfl) ?_
    have c_139 : ¬ (1 : Int32) = 0 := by decide
    refine lv_if_eq (tgt := 227) hx hb dL_isCell_139 (by decide) (fun q => absurd q c_139) (fun _ => ?_)
    refine lv_iload hx hb dL_isCell_142 (lv_at hl 2 rfl) ?_
    have c_144 : ¬ (1 : Int32) = 0 := by decide
    refine lv_if_eq (tgt := 227) hx hb dL_isCell_144 (by decide) (fun q => absurd q c_144) (fun _ => ?_)
    refine lv_iload_n hx hb dL_isCell_147 rfl (lv_at hl 5 rfl) ?_
    have c_148 : ¬ ((nI xc) : Int32) ≤ 0 := nI_nle (by omega) (by omega)
    refine lv_if_le (tgt := 227) hx hb dL_isCell_148 (by decide) (fun q => absurd q c_148) (fun _ => ?_)
    refine lv_aload_n hx hb dL_isCell_151 rfl (lv_at hl 4 rfl) ?_
    refine lv_iload_n hx hb dL_isCell_152 rfl (lv_at hl 5 rfl) ?_
    refine lv_iconst (v := 1) hx hb dL_isCell_153 (by decide) ?_
    refine lv_isub hx hb dL_isCell_154 ?_
    refine top_i (y := (nI (xc - 1))) (pk_sub (a := xc) (b := 1) (by omega)) ?_
    refine lv_iload_n hx hb dL_isCell_155 rfl (lv_at hl 6 rfl) ?_
    refine lv_iconst (v := 2) hx hb dL_isCell_156 (by decide) ?_
    refine cB_i hJ.hd CF hK hN hA hS hP hD (b_cellOf l D cI cZ cW cJ A X xo S u_114 (xc - 1) 0 2 (by omega) (by decide) (by decide) hJ) (cwV 3 hts gL_isCell_X8_cellOf rfl rfl rfl (by decide +kernel) ⟨Nat.le_of_ble_eq_true rfl, Nat.le_of_ble_eq_true rfl⟩) (As := [.int (nI (xc - 1)), .int (nI 0), .int 2]) (rest := []) rfl hl.1 rfl (Nat.le_of_ble_eq_true rfl) dL_isCell_157 ⟨Nat.le_of_ble_eq_true rfl, Nat.le_of_ble_eq_true rfl⟩ (fun r_157 u_157 H locs hq hP hD hS => ?_)
    obtain ⟨hrv, hJ⟩ := hq
    subst hrv
    refine top_i (y := (-1)) h8 ?_
    refine lv_istore (lv' := [(7, .int (-1)), (6, .int 1), (5, .int (nI g)), (4, .int 1), (3, .int 0), (0, .ref xo), (1, .int (nI xc)), (2, .int (nI 0))]) hx hb dL_isCell_160 hl (by decide) rfl (fun ls hl => ?_)
    refine lv_iload hx hb dL_isCell_162 (lv_at hl 0 rfl) ?_
    have c_164 : ((-1) : Int32) < 0 := by decide
    refine lv_if_lt (tgt := 171) hx hb dL_isCell_164 (by decide) (fun _ => ?_) (fun q => absurd c_164 q)
    refine lv_iconst (v := 0) hx hb dL_isCell_171 (by decide) ?_
    refine lv_aload_n hx hb dL_isCell_172 rfl (lv_at hl 5 rfl) ?_
    refine lv_iload_n hx hb dL_isCell_173 rfl (lv_at hl 6 rfl) ?_
    refine lv_iconst (v := 1) hx hb dL_isCell_174 (by decide) ?_
    refine lv_isub hx hb dL_isCell_175 ?_
    refine top_i (y := (nI (xc - 1))) (pk_sub (a := xc) (b := 1) (by omega)) ?_
    refine lv_iload_n hx hb dL_isCell_176 rfl (lv_at hl 7 rfl) ?_
    refine lv_iconst (v := 1) hx hb dL_isCell_177 (by decide) ?_
    refine cB_i hJ.hd CF hK hN hA hS hP hD (b_cellOf l D cI cZ cW cJ A X xo S u_157 (xc - 1) 0 1 (by omega) (by decide) (by decide) hJ) (cwV 3 hts gL_isCell_X8_cellOf rfl rfl rfl (by decide +kernel) ⟨Nat.le_of_ble_eq_true rfl, Nat.le_of_ble_eq_true rfl⟩) (As := [.int (nI (xc - 1)), .int (nI 0), .int 1]) (rest := [.int 0]) rfl hl.1 rfl (Nat.le_of_ble_eq_true rfl) dL_isCell_178 ⟨Nat.le_of_ble_eq_true rfl, Nat.le_of_ble_eq_true rfl⟩ (fun r_178 u_178 H locs hq hP hD hS => ?_)
    obtain ⟨hrv, hJ⟩ := hq
    subst hrv
    refine top_i (y := 0) h7 ?_
    refine lv_iconst (v := 1) hx hb dL_isCell_181 (by decide) ?_
    have c_182 : ¬ (0 : Int32) = 1 := by decide
    refine lv_icmp_ne (tgt := 189) hx hb dL_isCell_182 (by decide) (fun _ => ?_) (fun q => absurd q c_182)
    refine lv_iconst (v := 0) hx hb dL_isCell_189 (by decide) ?_
    have c_190 : (0 : Int32) = 0 := rfl
    refine lv_icmp_ne (tgt := 224) hx hb dL_isCell_190 (by decide) (fun q => absurd c_190 q) (fun _ => ?_)
    refine lv_iload hx hb dL_isCell_193 (lv_at hl 0 rfl) ?_
    have c_195 : ((-1) : Int32) < 0 := by decide
    refine lv_if_lt (tgt := 205) hx hb dL_isCell_195 (by decide) (fun _ => ?_) (fun q => absurd c_195 q)
    refine lv_iload hx hb dL_isCell_205 (lv_at hl 0 rfl) ?_
    have c_207 : ¬ (0 : Int32) ≤ (-1) := by decide
    refine lv_if_ge (tgt := 220) hx hb dL_isCell_207 (by decide) (fun q => absurd q c_207) (fun _ => ?_)
    refine lv_aload_n hx hb dL_isCell_210 rfl (lv_at hl 5 rfl) ?_
    refine lv_iload_n hx hb dL_isCell_211 rfl (lv_at hl 6 rfl) ?_
    refine lv_iload_n hx hb dL_isCell_212 rfl (lv_at hl 7 rfl) ?_
    refine lv_iconst (v := 3) hx hb dL_isCell_213 (by decide) ?_
    refine cB_i hJ.hd CF hK hN hA hS hP hD (b_cellOf l D cI cZ cW cJ A X xo S u_178 xc 0 3 (by omega) (by decide) (by decide) hJ) (cwV 3 hts gL_isCell_X8_cellOf rfl rfl rfl (by decide +kernel) ⟨Nat.le_of_ble_eq_true rfl, Nat.le_of_ble_eq_true rfl⟩) (As := [.int (nI xc), .int (nI 0), .int 3]) (rest := []) rfl hl.1 rfl (Nat.le_of_ble_eq_true rfl) dL_isCell_214 ⟨Nat.le_of_ble_eq_true rfl, Nat.le_of_ble_eq_true rfl⟩ (fun r_214 u_214 H locs hq hP hD hS => ?_)
    obtain ⟨hrv, hJ⟩ := hq
    subst hrv
    refine top_i (y := 0) h9 ?_
    have c_217 : (0 : Int32) = 0 := rfl
    refine lv_if_ne (tgt := 224) hx hb dL_isCell_217 (by decide) (fun q => absurd c_217 q) (fun _ => ?_)
    refine lv_iconst (v := 1) hx hb dL_isCell_220 (by decide) ?_
    refine lv_goto (tgt := 225) hx hb dL_isCell_221 (by decide) ?_
    refine lv_istore (lv' := [(6, .int 1), (7, .int (-1)), (5, .int (nI g)), (4, .int 1), (3, .int 0), (0, .ref xo), (1, .int (nI xc)), (2, .int (nI 0))]) hx hb dL_isCell_225 hl (by decide) rfl (fun ls hl => ?_)
    refine lv_iload hx hb dL_isCell_227 (lv_at hl 0 rfl) ?_
    exact W.zret (v := 1) (ty := .boolean) hx hb hr (rfl) (fun t9 ht9 hW9 => ⟨⟨1, u_214, rfl, ⟨rfl, hJ⟩, by rw [ht9]; exact hP, hD⟩, hS.F ht9⟩) hS.2.2 dL_isCell_229
  · skip
    refine lv_aload_n hx hb dL_isCell_0 rfl (lv_at hl 0 rfl) ?_
    refine lv_iload_n hx hb dL_isCell_1 rfl (lv_at hl 1 rfl) ?_
    refine lv_iload_n hx hb dL_isCell_2 rfl (lv_at hl 2 rfl) ?_
    refine lv_iconst (v := 0) hx hb dL_isCell_3 (by decide) ?_
    refine cB_i hJ.hd CF hK hN hA hS hP hD (b_cellOf l D cI cZ cW cJ A X xo S XB 0 xr 0 (by decide) (by omega) (by decide) hJ) (cwV 3 hts gL_isCell_X8_cellOf rfl rfl rfl (by decide +kernel) ⟨Nat.le_of_ble_eq_true rfl, Nat.le_of_ble_eq_true rfl⟩) (As := [.int (nI 0), .int (nI xr), .int 0]) (rest := []) rfl hl.1 rfl (Nat.le_of_ble_eq_true rfl) dL_isCell_4 ⟨Nat.le_of_ble_eq_true rfl, Nat.le_of_ble_eq_true rfl⟩ (fun r_4 u_4 H locs hq hP hD hS => ?_)
    obtain ⟨hrv, hJ⟩ := hq
    subst hrv
    refine top_i (y := 0) h0 ?_
    refine lv_iconst (v := 1) hx hb dL_isCell_7 (by decide) ?_
    have c_8 : ¬ (0 : Int32) = 1 := by decide
    refine lv_icmp_ne (tgt := 15) hx hb dL_isCell_8 (by decide) (fun _ => ?_) (fun q => absurd q c_8)
    refine lv_iconst (v := 0) hx hb dL_isCell_15 (by decide) ?_
    refine lv_istore_n (lv' := [(3, .int 0), (0, .ref xo), (1, .int (nI 0)), (2, .int (nI xr))]) hx hb dL_isCell_16 rfl hl (by decide) rfl (fun ls hl => ?_)
    refine lv_aload_n hx hb dL_isCell_17 rfl (lv_at hl 1 rfl) ?_
    refine lv_iload_n hx hb dL_isCell_18 rfl (lv_at hl 2 rfl) ?_
    refine lv_iload_n hx hb dL_isCell_19 rfl (lv_at hl 3 rfl) ?_
    refine lv_iconst (v := 1) hx hb dL_isCell_20 (by decide) ?_
    refine cB_i hJ.hd CF hK hN hA hS hP hD (b_cellOf l D cI cZ cW cJ A X xo S u_4 0 xr 1 (by decide) (by omega) (by decide) hJ) (cwV 3 hts gL_isCell_X8_cellOf rfl rfl rfl (by decide +kernel) ⟨Nat.le_of_ble_eq_true rfl, Nat.le_of_ble_eq_true rfl⟩) (As := [.int (nI 0), .int (nI xr), .int 1]) (rest := []) rfl hl.1 rfl (Nat.le_of_ble_eq_true rfl) dL_isCell_21 ⟨Nat.le_of_ble_eq_true rfl, Nat.le_of_ble_eq_true rfl⟩ (fun r_21 u_21 H locs hq hP hD hS => ?_)
    obtain ⟨hrv, hJ⟩ := hq
    subst hrv
    refine top_i (y := 1) h1 ?_
    refine lv_iconst (v := 1) hx hb dL_isCell_24 (by decide) ?_
    have c_25 : (1 : Int32) = 1 := rfl
    refine lv_icmp_ne (tgt := 32) hx hb dL_isCell_25 (by decide) (fun q => absurd c_25 q) (fun _ => ?_)
    refine lv_iconst (v := 1) hx hb dL_isCell_28 (by decide) ?_
    refine lv_goto (tgt := 33) hx hb dL_isCell_29 (by decide) ?_
    refine lv_istore (lv' := [(4, .int 1), (3, .int 0), (0, .ref xo), (1, .int (nI 0)), (2, .int (nI xr))]) hx hb dL_isCell_33 hl (by decide) rfl (fun ls hl => ?_)
    refine lv_aload_n hx hb dL_isCell_35 rfl (lv_at hl 2 rfl) ?_
    refine lv_iload_n hx hb dL_isCell_36 rfl (lv_at hl 3 rfl) ?_
    refine lv_iload_n hx hb dL_isCell_37 rfl (lv_at hl 4 rfl) ?_
    refine lv_iconst (v := 2) hx hb dL_isCell_38 (by decide) ?_
    refine cB_i hJ.hd CF hK hN hA hS hP hD (b_cellOf l D cI cZ cW cJ A X xo S u_21 0 xr 2 (by decide) (by omega) (by decide) hJ) (cwV 3 hts gL_isCell_X8_cellOf rfl rfl rfl (by decide +kernel) ⟨Nat.le_of_ble_eq_true rfl, Nat.le_of_ble_eq_true rfl⟩) (As := [.int (nI 0), .int (nI xr), .int 2]) (rest := []) rfl hl.1 rfl (Nat.le_of_ble_eq_true rfl) dL_isCell_39 ⟨Nat.le_of_ble_eq_true rfl, Nat.le_of_ble_eq_true rfl⟩ (fun r_39 u_39 H locs hq hP hD hS => ?_)
    obtain ⟨hrv, hJ⟩ := hq
    subst hrv
    refine top_i (y := (nI g)) h2 ?_
    refine lv_istore (lv' := [(5, .int (nI g)), (4, .int 1), (3, .int 0), (0, .ref xo), (1, .int (nI 0)), (2, .int (nI xr))]) hx hb dL_isCell_42 hl (by decide) rfl (fun ls hl => ?_)
    refine lv_iload hx hb dL_isCell_44 (lv_at hl 1 rfl) ?_
    refine lv_iload_n hx hb dL_isCell_46 rfl (lv_at hl 2 rfl) ?_
    have c_47 : (0 : Int32) = 0 := rfl
    refine lv_if_ne (tgt := 71) hx hb dL_isCell_47 (by decide) (fun q => absurd c_47 q) (fun _ => ?_)
    refine lv_iload_n hx hb dL_isCell_50 rfl (lv_at hl 5 rfl) ?_
    have c_51 : ¬ ((nI xr) : Int32) = 0 := nI_ne0 (by omega) (by omega)
    refine lv_if_eq (tgt := 67) hx hb dL_isCell_51 (by decide) (fun q => absurd q c_51) (fun _ => ?_)
    refine lv_aload_n hx hb dL_isCell_54 rfl (lv_at hl 3 rfl) ?_
    refine lv_iload_n hx hb dL_isCell_55 rfl (lv_at hl 4 rfl) ?_
    refine lv_iload_n hx hb dL_isCell_56 rfl (lv_at hl 5 rfl) ?_
    refine lv_iconst (v := 1) hx hb dL_isCell_57 (by decide) ?_
    refine lv_isub hx hb dL_isCell_58 ?_
    refine top_i (y := (nI (xr - 1))) (pk_sub (a := xr) (b := 1) (by omega)) ?_
    refine lv_iconst (v := 0) hx hb dL_isCell_59 (by decide) ?_
    refine cB_i hJ.hd CF hK hN hA hS hP hD (b_cellOf l D cI cZ cW cJ A X xo S u_39 0 (xr - 1) 0 (by decide) (by omega) (by decide) hJ) (cwV 3 hts gL_isCell_X8_cellOf rfl rfl rfl (by decide +kernel) ⟨Nat.le_of_ble_eq_true rfl, Nat.le_of_ble_eq_true rfl⟩) (As := [.int (nI 0), .int (nI (xr - 1)), .int 0]) (rest := [.int 1]) rfl hl.1 rfl (Nat.le_of_ble_eq_true rfl) dL_isCell_60 ⟨Nat.le_of_ble_eq_true rfl, Nat.le_of_ble_eq_true rfl⟩ (fun r_60 u_60 H locs hq hP hD hS => ?_)
    obtain ⟨hrv, hJ⟩ := hq
    subst hrv
    refine top_i (y := 1) h5b ?_
    refine lv_iconst (v := 1) hx hb dL_isCell_63 (by decide) ?_
    have c_64 : (1 : Int32) = 1 := rfl
    refine lv_icmp_ne (tgt := 71) hx hb dL_isCell_64 (by decide) (fun q => absurd c_64 q) (fun _ => ?_)
    refine lv_iconst (v := 1) hx hb dL_isCell_67 (by decide) ?_
    refine lv_goto (tgt := 72) hx hb dL_isCell_68 (by decide) ?_
    have c_72 : (1 : Int32) = 1 := rfl
    refine lv_icmp_ne (tgt := 134) hx hb dL_isCell_72 (by decide) (fun q => absurd c_72 q) (fun _ => ?_)
    refine lv_iload hx hb dL_isCell_75 (lv_at hl 0 rfl) ?_
    have c_77 : ¬ ((nI g) : Int32) < 0 := nI_pos (by omega)
    refine lv_if_lt (tgt := 84) hx hb dL_isCell_77 (by decide) (fun q => absurd q c_77) (fun _ => ?_)
    refine lv_iconst (v := 1) hx hb dL_isCell_80 (by decide) ?_
    refine lv_goto (tgt := 85) hx hb dL_isCell_81 (by decide) ?_
    refine lv_iload hx hb dL_isCell_85 (lv_at hl 1 rfl) ?_
    have c_87 : (1 : Int32) = 1 := rfl
    refine lv_icmp_ne (tgt := 134) hx hb dL_isCell_87 (by decide) (fun q => absurd c_87 q) (fun _ => ?_)
    refine lv_aload_n hx hb dL_isCell_90 rfl (lv_at hl 3 rfl) ?_
    refine lv_iload_n hx hb dL_isCell_91 rfl (lv_at hl 4 rfl) ?_
    refine lv_iload_n hx hb dL_isCell_92 rfl (lv_at hl 5 rfl) ?_
    refine lv_iconst (v := 3) hx hb dL_isCell_93 (by decide) ?_
    refine cB_i hJ.hd CF hK hN hA hS hP hD (b_cellOf l D cI cZ cW cJ A X xo S u_60 0 xr 3 (by decide) (by omega) (by decide) hJ) (cwV 3 hts gL_isCell_X8_cellOf rfl rfl rfl (by decide +kernel) ⟨Nat.le_of_ble_eq_true rfl, Nat.le_of_ble_eq_true rfl⟩) (As := [.int (nI 0), .int (nI xr), .int 3]) (rest := []) rfl hl.1 rfl (Nat.le_of_ble_eq_true rfl) dL_isCell_94 ⟨Nat.le_of_ble_eq_true rfl, Nat.le_of_ble_eq_true rfl⟩ (fun r_94 u_94 H locs hq hP hD hS => ?_)
    obtain ⟨hrv, hJ⟩ := hq
    subst hrv
    refine top_i (y := (nI g3)) h3 ?_
    have c_97 : ¬ ((nI g3) : Int32) < 0 := nI_pos (by omega)
    refine lv_if_lt (tgt := 104) hx hb dL_isCell_97 (by decide) (fun q => absurd q c_97) (fun _ => ?_)
    refine lv_iconst (v := 1) hx hb dL_isCell_100 (by decide) ?_
    refine lv_goto (tgt := 105) hx hb dL_isCell_101 (by decide) ?_
    refine lv_iload hx hb dL_isCell_105 (lv_at hl 1 rfl) ?_
    have c_107 : (1 : Int32) = 1 := rfl
    refine lv_icmp_ne (tgt := 134) hx hb dL_isCell_107 (by decide) (fun q => absurd c_107 q) (fun _ => ?_)
    refine lv_aload_n hx hb dL_isCell_110 rfl (lv_at hl 3 rfl) ?_
    refine lv_iload_n hx hb dL_isCell_111 rfl (lv_at hl 4 rfl) ?_
    refine lv_iload_n hx hb dL_isCell_112 rfl (lv_at hl 5 rfl) ?_
    refine lv_iconst (v := 4) hx hb dL_isCell_113 (by decide) ?_
    refine cB_i hJ.hd CF hK hN hA hS hP hD (b_cellOf l D cI cZ cW cJ A X xo S u_94 0 xr 4 (by decide) (by omega) (by decide) hJ) (cwV 3 hts gL_isCell_X8_cellOf rfl rfl rfl (by decide +kernel) ⟨Nat.le_of_ble_eq_true rfl, Nat.le_of_ble_eq_true rfl⟩) (As := [.int (nI 0), .int (nI xr), .int 4]) (rest := []) rfl hl.1 rfl (Nat.le_of_ble_eq_true rfl) dL_isCell_114 ⟨Nat.le_of_ble_eq_true rfl, Nat.le_of_ble_eq_true rfl⟩ (fun r_114 u_114 H locs hq hP hD hS => ?_)
    obtain ⟨hrv, hJ⟩ := hq
    subst hrv
    refine top_i (y := (nI g4)) h4 ?_
    have c_117 : ¬ ((nI g4) : Int32) < 0 := nI_pos (by omega)
    refine lv_if_lt (tgt := 124) hx hb dL_isCell_117 (by decide) (fun q => absurd q c_117) (fun _ => ?_)
    refine lv_iconst (v := 1) hx hb dL_isCell_120 (by decide) ?_
    refine lv_goto (tgt := 125) hx hb dL_isCell_121 (by decide) ?_
    refine lv_iload hx hb dL_isCell_125 (lv_at hl 1 rfl) ?_
    have c_127 : (1 : Int32) = 1 := rfl
    refine lv_icmp_ne (tgt := 134) hx hb dL_isCell_127 (by decide) (fun q => absurd c_127 q) (fun _ => ?_)
    refine lv_iconst (v := 1) hx hb dL_isCell_130 (by decide) ?_
    refine lv_goto (tgt := 135) hx hb dL_isCell_131 (by decide) ?_
    refine lv_istore (lv' := [(6, .int 1), (5, .int (nI g)), (4, .int 1), (3, .int 0), (0, .ref xo), (1, .int (nI 0)), (2, .int (nI xr))]) hx hb dL_isCell_135 hl (by decide) rfl (fun ls hl => ?_)
    refine lv_iload hx hb dL_isCell_137 (lv_at hl 0 rfl) ?_
    have c_139 : ¬ (1 : Int32) = 0 := by decide
    refine lv_if_eq (tgt := 227) hx hb dL_isCell_139 (by decide) (fun q => absurd q c_139) (fun _ => ?_)
    refine lv_iload hx hb dL_isCell_142 (lv_at hl 2 rfl) ?_
    have c_144 : ¬ (1 : Int32) = 0 := by decide
    refine lv_if_eq (tgt := 227) hx hb dL_isCell_144 (by decide) (fun q => absurd q c_144) (fun _ => ?_)
    refine lv_iload_n hx hb dL_isCell_147 rfl (lv_at hl 5 rfl) ?_
    have c_148 : ((nI 0) : Int32) ≤ 0 := by decide
    refine lv_if_le (tgt := 227) hx hb dL_isCell_148 (by decide) (fun _ => ?_) (fun q => absurd c_148 q)
    refine lv_iload hx hb dL_isCell_227 (lv_at hl 0 rfl) ?_
    exact W.zret (v := 1) (ty := .boolean) hx hb hr (rfl) (fun t9 ht9 hW9 => ⟨⟨1, u_114, rfl, ⟨rfl, hJ⟩, by rw [ht9]; exact hP, hD⟩, hS.F ht9⟩) hS.2.2 dL_isCell_229
  · skip
    refine lv_aload_n hx hb dL_isCell_0 rfl (lv_at hl 0 rfl) ?_
    refine lv_iload_n hx hb dL_isCell_1 rfl (lv_at hl 1 rfl) ?_
    refine lv_iload_n hx hb dL_isCell_2 rfl (lv_at hl 2 rfl) ?_
    refine lv_iconst (v := 0) hx hb dL_isCell_3 (by decide) ?_
    refine cB_i hJ.hd CF hK hN hA hS hP hD (b_cellOf l D cI cZ cW cJ A X xo S XB xc xr 0 (by omega) (by omega) (by decide) hJ) (cwV 3 hts gL_isCell_X8_cellOf rfl rfl rfl (by decide +kernel) ⟨Nat.le_of_ble_eq_true rfl, Nat.le_of_ble_eq_true rfl⟩) (As := [.int (nI xc), .int (nI xr), .int 0]) (rest := []) rfl hl.1 rfl (Nat.le_of_ble_eq_true rfl) dL_isCell_4 ⟨Nat.le_of_ble_eq_true rfl, Nat.le_of_ble_eq_true rfl⟩ (fun r_4 u_4 H locs hq hP hD hS => ?_)
    obtain ⟨hrv, hJ⟩ := hq
    subst hrv
    refine top_i (y := 0) h0 ?_
    refine lv_iconst (v := 1) hx hb dL_isCell_7 (by decide) ?_
    have c_8 : ¬ (0 : Int32) = 1 := by decide
    refine lv_icmp_ne (tgt := 15) hx hb dL_isCell_8 (by decide) (fun _ => ?_) (fun q => absurd q c_8)
    refine lv_iconst (v := 0) hx hb dL_isCell_15 (by decide) ?_
    refine lv_istore_n (lv' := [(3, .int 0), (0, .ref xo), (1, .int (nI xc)), (2, .int (nI xr))]) hx hb dL_isCell_16 rfl hl (by decide) rfl (fun ls hl => ?_)
    refine lv_aload_n hx hb dL_isCell_17 rfl (lv_at hl 1 rfl) ?_
    refine lv_iload_n hx hb dL_isCell_18 rfl (lv_at hl 2 rfl) ?_
    refine lv_iload_n hx hb dL_isCell_19 rfl (lv_at hl 3 rfl) ?_
    refine lv_iconst (v := 1) hx hb dL_isCell_20 (by decide) ?_
    refine cB_i hJ.hd CF hK hN hA hS hP hD (b_cellOf l D cI cZ cW cJ A X xo S u_4 xc xr 1 (by omega) (by omega) (by decide) hJ) (cwV 3 hts gL_isCell_X8_cellOf rfl rfl rfl (by decide +kernel) ⟨Nat.le_of_ble_eq_true rfl, Nat.le_of_ble_eq_true rfl⟩) (As := [.int (nI xc), .int (nI xr), .int 1]) (rest := []) rfl hl.1 rfl (Nat.le_of_ble_eq_true rfl) dL_isCell_21 ⟨Nat.le_of_ble_eq_true rfl, Nat.le_of_ble_eq_true rfl⟩ (fun r_21 u_21 H locs hq hP hD hS => ?_)
    obtain ⟨hrv, hJ⟩ := hq
    subst hrv
    refine top_i (y := 1) h1 ?_
    refine lv_iconst (v := 1) hx hb dL_isCell_24 (by decide) ?_
    have c_25 : (1 : Int32) = 1 := rfl
    refine lv_icmp_ne (tgt := 32) hx hb dL_isCell_25 (by decide) (fun q => absurd c_25 q) (fun _ => ?_)
    refine lv_iconst (v := 1) hx hb dL_isCell_28 (by decide) ?_
    refine lv_goto (tgt := 33) hx hb dL_isCell_29 (by decide) ?_
    refine lv_istore (lv' := [(4, .int 1), (3, .int 0), (0, .ref xo), (1, .int (nI xc)), (2, .int (nI xr))]) hx hb dL_isCell_33 hl (by decide) rfl (fun ls hl => ?_)
    refine lv_aload_n hx hb dL_isCell_35 rfl (lv_at hl 2 rfl) ?_
    refine lv_iload_n hx hb dL_isCell_36 rfl (lv_at hl 3 rfl) ?_
    refine lv_iload_n hx hb dL_isCell_37 rfl (lv_at hl 4 rfl) ?_
    refine lv_iconst (v := 2) hx hb dL_isCell_38 (by decide) ?_
    refine cB_i hJ.hd CF hK hN hA hS hP hD (b_cellOf l D cI cZ cW cJ A X xo S u_21 xc xr 2 (by omega) (by omega) (by decide) hJ) (cwV 3 hts gL_isCell_X8_cellOf rfl rfl rfl (by decide +kernel) ⟨Nat.le_of_ble_eq_true rfl, Nat.le_of_ble_eq_true rfl⟩) (As := [.int (nI xc), .int (nI xr), .int 2]) (rest := []) rfl hl.1 rfl (Nat.le_of_ble_eq_true rfl) dL_isCell_39 ⟨Nat.le_of_ble_eq_true rfl, Nat.le_of_ble_eq_true rfl⟩ (fun r_39 u_39 H locs hq hP hD hS => ?_)
    obtain ⟨hrv, hJ⟩ := hq
    subst hrv
    refine top_i (y := (nI g)) h2 ?_
    refine lv_istore (lv' := [(5, .int (nI g)), (4, .int 1), (3, .int 0), (0, .ref xo), (1, .int (nI xc)), (2, .int (nI xr))]) hx hb dL_isCell_42 hl (by decide) rfl (fun ls hl => ?_)
    refine lv_iload hx hb dL_isCell_44 (lv_at hl 1 rfl) ?_
    refine lv_iload_n hx hb dL_isCell_46 rfl (lv_at hl 2 rfl) ?_
    have c_47 : (0 : Int32) = 0 := rfl
    refine lv_if_ne (tgt := 71) hx hb dL_isCell_47 (by decide) (fun q => absurd c_47 q) (fun _ => ?_)
    refine lv_iload_n hx hb dL_isCell_50 rfl (lv_at hl 5 rfl) ?_
    have c_51 : ¬ ((nI xr) : Int32) = 0 := nI_ne0 (by omega) (by omega)
    refine lv_if_eq (tgt := 67) hx hb dL_isCell_51 (by decide) (fun q => absurd q c_51) (fun _ => ?_)
    refine lv_aload_n hx hb dL_isCell_54 rfl (lv_at hl 3 rfl) ?_
    refine lv_iload_n hx hb dL_isCell_55 rfl (lv_at hl 4 rfl) ?_
    refine lv_iload_n hx hb dL_isCell_56 rfl (lv_at hl 5 rfl) ?_
    refine lv_iconst (v := 1) hx hb dL_isCell_57 (by decide) ?_
    refine lv_isub hx hb dL_isCell_58 ?_
    refine top_i (y := (nI (xr - 1))) (pk_sub (a := xr) (b := 1) (by omega)) ?_
    refine lv_iconst (v := 0) hx hb dL_isCell_59 (by decide) ?_
    refine cB_i hJ.hd CF hK hN hA hS hP hD (b_cellOf l D cI cZ cW cJ A X xo S u_39 xc (xr - 1) 0 (by omega) (by omega) (by decide) hJ) (cwV 3 hts gL_isCell_X8_cellOf rfl rfl rfl (by decide +kernel) ⟨Nat.le_of_ble_eq_true rfl, Nat.le_of_ble_eq_true rfl⟩) (As := [.int (nI xc), .int (nI (xr - 1)), .int 0]) (rest := [.int 1]) rfl hl.1 rfl (Nat.le_of_ble_eq_true rfl) dL_isCell_60 ⟨Nat.le_of_ble_eq_true rfl, Nat.le_of_ble_eq_true rfl⟩ (fun r_60 u_60 H locs hq hP hD hS => ?_)
    obtain ⟨hrv, hJ⟩ := hq
    subst hrv
    refine top_i (y := 1) h5b ?_
    refine lv_iconst (v := 1) hx hb dL_isCell_63 (by decide) ?_
    have c_64 : (1 : Int32) = 1 := rfl
    refine lv_icmp_ne (tgt := 71) hx hb dL_isCell_64 (by decide) (fun q => absurd c_64 q) (fun _ => ?_)
    refine lv_iconst (v := 1) hx hb dL_isCell_67 (by decide) ?_
    refine lv_goto (tgt := 72) hx hb dL_isCell_68 (by decide) ?_
    have c_72 : (1 : Int32) = 1 := rfl
    refine lv_icmp_ne (tgt := 134) hx hb dL_isCell_72 (by decide) (fun q => absurd c_72 q) (fun _ => ?_)
    refine lv_iload hx hb dL_isCell_75 (lv_at hl 0 rfl) ?_
    have c_77 : ¬ ((nI g) : Int32) < 0 := nI_pos (by omega)
    refine lv_if_lt (tgt := 84) hx hb dL_isCell_77 (by decide) (fun q => absurd q c_77) (fun _ => ?_)
    refine lv_iconst (v := 1) hx hb dL_isCell_80 (by decide) ?_
    refine lv_goto (tgt := 85) hx hb dL_isCell_81 (by decide) ?_
    refine lv_iload hx hb dL_isCell_85 (lv_at hl 1 rfl) ?_
    have c_87 : (1 : Int32) = 1 := rfl
    refine lv_icmp_ne (tgt := 134) hx hb dL_isCell_87 (by decide) (fun q => absurd c_87 q) (fun _ => ?_)
    refine lv_aload_n hx hb dL_isCell_90 rfl (lv_at hl 3 rfl) ?_
    refine lv_iload_n hx hb dL_isCell_91 rfl (lv_at hl 4 rfl) ?_
    refine lv_iload_n hx hb dL_isCell_92 rfl (lv_at hl 5 rfl) ?_
    refine lv_iconst (v := 3) hx hb dL_isCell_93 (by decide) ?_
    refine cB_i hJ.hd CF hK hN hA hS hP hD (b_cellOf l D cI cZ cW cJ A X xo S u_60 xc xr 3 (by omega) (by omega) (by decide) hJ) (cwV 3 hts gL_isCell_X8_cellOf rfl rfl rfl (by decide +kernel) ⟨Nat.le_of_ble_eq_true rfl, Nat.le_of_ble_eq_true rfl⟩) (As := [.int (nI xc), .int (nI xr), .int 3]) (rest := []) rfl hl.1 rfl (Nat.le_of_ble_eq_true rfl) dL_isCell_94 ⟨Nat.le_of_ble_eq_true rfl, Nat.le_of_ble_eq_true rfl⟩ (fun r_94 u_94 H locs hq hP hD hS => ?_)
    obtain ⟨hrv, hJ⟩ := hq
    subst hrv
    refine top_i (y := (nI g3)) h3 ?_
    have c_97 : ¬ ((nI g3) : Int32) < 0 := nI_pos (by omega)
    refine lv_if_lt (tgt := 104) hx hb dL_isCell_97 (by decide) (fun q => absurd q c_97) (fun _ => ?_)
    refine lv_iconst (v := 1) hx hb dL_isCell_100 (by decide) ?_
    refine lv_goto (tgt := 105) hx hb dL_isCell_101 (by decide) ?_
    refine lv_iload hx hb dL_isCell_105 (lv_at hl 1 rfl) ?_
    have c_107 : (1 : Int32) = 1 := rfl
    refine lv_icmp_ne (tgt := 134) hx hb dL_isCell_107 (by decide) (fun q => absurd c_107 q) (fun _ => ?_)
    refine lv_aload_n hx hb dL_isCell_110 rfl (lv_at hl 3 rfl) ?_
    refine lv_iload_n hx hb dL_isCell_111 rfl (lv_at hl 4 rfl) ?_
    refine lv_iload_n hx hb dL_isCell_112 rfl (lv_at hl 5 rfl) ?_
    refine lv_iconst (v := 4) hx hb dL_isCell_113 (by decide) ?_
    refine cB_i hJ.hd CF hK hN hA hS hP hD (b_cellOf l D cI cZ cW cJ A X xo S u_94 xc xr 4 (by omega) (by omega) (by decide) hJ) (cwV 3 hts gL_isCell_X8_cellOf rfl rfl rfl (by decide +kernel) ⟨Nat.le_of_ble_eq_true rfl, Nat.le_of_ble_eq_true rfl⟩) (As := [.int (nI xc), .int (nI xr), .int 4]) (rest := []) rfl hl.1 rfl (Nat.le_of_ble_eq_true rfl) dL_isCell_114 ⟨Nat.le_of_ble_eq_true rfl, Nat.le_of_ble_eq_true rfl⟩ (fun r_114 u_114 H locs hq hP hD hS => ?_)
    obtain ⟨hrv, hJ⟩ := hq
    subst hrv
    refine top_i (y := (nI g4)) h4 ?_
    have c_117 : ¬ ((nI g4) : Int32) < 0 := nI_pos (by omega)
    refine lv_if_lt (tgt := 124) hx hb dL_isCell_117 (by decide) (fun q => absurd q c_117) (fun _ => ?_)
    refine lv_iconst (v := 1) hx hb dL_isCell_120 (by decide) ?_
    refine lv_goto (tgt := 125) hx hb dL_isCell_121 (by decide) ?_
    refine lv_iload hx hb dL_isCell_125 (lv_at hl 1 rfl) ?_
    have c_127 : (1 : Int32) = 1 := rfl
    refine lv_icmp_ne (tgt := 134) hx hb dL_isCell_127 (by decide) (fun q => absurd c_127 q) (fun _ => ?_)
    refine lv_iconst (v := 1) hx hb dL_isCell_130 (by decide) ?_
    refine lv_goto (tgt := 135) hx hb dL_isCell_131 (by decide) ?_
    refine lv_istore (lv' := [(6, .int 1), (5, .int (nI g)), (4, .int 1), (3, .int 0), (0, .ref xo), (1, .int (nI xc)), (2, .int (nI xr))]) hx hb dL_isCell_135 hl (by decide) rfl (fun ls hl => ?_)
    refine lv_iload hx hb dL_isCell_137 (lv_at hl 0 rfl) ?_
    have c_139 : ¬ (1 : Int32) = 0 := by decide
    refine lv_if_eq (tgt := 227) hx hb dL_isCell_139 (by decide) (fun q => absurd q c_139) (fun _ => ?_)
    refine lv_iload hx hb dL_isCell_142 (lv_at hl 2 rfl) ?_
    have c_144 : ¬ (1 : Int32) = 0 := by decide
    refine lv_if_eq (tgt := 227) hx hb dL_isCell_144 (by decide) (fun q => absurd q c_144) (fun _ => ?_)
    refine lv_iload_n hx hb dL_isCell_147 rfl (lv_at hl 5 rfl) ?_
    have c_148 : ¬ ((nI xc) : Int32) ≤ 0 := nI_nle (by omega) (by omega)
    refine lv_if_le (tgt := 227) hx hb dL_isCell_148 (by decide) (fun q => absurd q c_148) (fun _ => ?_)
    refine lv_aload_n hx hb dL_isCell_151 rfl (lv_at hl 4 rfl) ?_
    refine lv_iload_n hx hb dL_isCell_152 rfl (lv_at hl 5 rfl) ?_
    refine lv_iconst (v := 1) hx hb dL_isCell_153 (by decide) ?_
    refine lv_isub hx hb dL_isCell_154 ?_
    refine top_i (y := (nI (xc - 1))) (pk_sub (a := xc) (b := 1) (by omega)) ?_
    refine lv_iload_n hx hb dL_isCell_155 rfl (lv_at hl 6 rfl) ?_
    refine lv_iconst (v := 2) hx hb dL_isCell_156 (by decide) ?_
    refine cB_i hJ.hd CF hK hN hA hS hP hD (b_cellOf l D cI cZ cW cJ A X xo S u_114 (xc - 1) xr 2 (by omega) (by omega) (by decide) hJ) (cwV 3 hts gL_isCell_X8_cellOf rfl rfl rfl (by decide +kernel) ⟨Nat.le_of_ble_eq_true rfl, Nat.le_of_ble_eq_true rfl⟩) (As := [.int (nI (xc - 1)), .int (nI xr), .int 2]) (rest := []) rfl hl.1 rfl (Nat.le_of_ble_eq_true rfl) dL_isCell_157 ⟨Nat.le_of_ble_eq_true rfl, Nat.le_of_ble_eq_true rfl⟩ (fun r_157 u_157 H locs hq hP hD hS => ?_)
    obtain ⟨hrv, hJ⟩ := hq
    subst hrv
    refine top_i (y := (nI g)) h8 ?_
    refine lv_istore (lv' := [(7, .int (nI g)), (6, .int 1), (5, .int (nI g)), (4, .int 1), (3, .int 0), (0, .ref xo), (1, .int (nI xc)), (2, .int (nI xr))]) hx hb dL_isCell_160 hl (by decide) rfl (fun ls hl => ?_)
    refine lv_iload hx hb dL_isCell_162 (lv_at hl 0 rfl) ?_
    have c_164 : ¬ ((nI g) : Int32) < 0 := nI_pos (by omega)
    refine lv_if_lt (tgt := 171) hx hb dL_isCell_164 (by decide) (fun q => absurd q c_164) (fun _ => ?_)
    refine lv_iconst (v := 1) hx hb dL_isCell_167 (by decide) ?_
    refine lv_goto (tgt := 172) hx hb dL_isCell_168 (by decide) ?_
    refine lv_aload_n hx hb dL_isCell_172 rfl (lv_at hl 5 rfl) ?_
    refine lv_iload_n hx hb dL_isCell_173 rfl (lv_at hl 6 rfl) ?_
    refine lv_iconst (v := 1) hx hb dL_isCell_174 (by decide) ?_
    refine lv_isub hx hb dL_isCell_175 ?_
    refine top_i (y := (nI (xc - 1))) (pk_sub (a := xc) (b := 1) (by omega)) ?_
    refine lv_iload_n hx hb dL_isCell_176 rfl (lv_at hl 7 rfl) ?_
    refine lv_iconst (v := 1) hx hb dL_isCell_177 (by decide) ?_
    refine cB_i hJ.hd CF hK hN hA hS hP hD (b_cellOf l D cI cZ cW cJ A X xo S u_157 (xc - 1) xr 1 (by omega) (by omega) (by decide) hJ) (cwV 3 hts gL_isCell_X8_cellOf rfl rfl rfl (by decide +kernel) ⟨Nat.le_of_ble_eq_true rfl, Nat.le_of_ble_eq_true rfl⟩) (As := [.int (nI (xc - 1)), .int (nI xr), .int 1]) (rest := [.int 1]) rfl hl.1 rfl (Nat.le_of_ble_eq_true rfl) dL_isCell_178 ⟨Nat.le_of_ble_eq_true rfl, Nat.le_of_ble_eq_true rfl⟩ (fun r_178 u_178 H locs hq hP hD hS => ?_)
    obtain ⟨hrv, hJ⟩ := hq
    subst hrv
    refine top_i (y := 1) h7 ?_
    refine lv_iconst (v := 1) hx hb dL_isCell_181 (by decide) ?_
    have c_182 : (1 : Int32) = 1 := rfl
    refine lv_icmp_ne (tgt := 189) hx hb dL_isCell_182 (by decide) (fun q => absurd c_182 q) (fun _ => ?_)
    refine lv_iconst (v := 1) hx hb dL_isCell_185 (by decide) ?_
    refine lv_goto (tgt := 190) hx hb dL_isCell_186 (by decide) ?_
    have c_190 : (1 : Int32) = 1 := rfl
    refine lv_icmp_ne (tgt := 224) hx hb dL_isCell_190 (by decide) (fun q => absurd c_190 q) (fun _ => ?_)
    refine lv_iload hx hb dL_isCell_193 (lv_at hl 0 rfl) ?_
    have c_195 : ¬ ((nI g) : Int32) < 0 := nI_pos (by omega)
    refine lv_if_lt (tgt := 205) hx hb dL_isCell_195 (by decide) (fun q => absurd q c_195) (fun _ => ?_)
    refine lv_iload hx hb dL_isCell_198 (lv_at hl 0 rfl) ?_
    refine lv_iload hx hb dL_isCell_200 (lv_at hl 2 rfl) ?_
    have c_202 : ((nI g) : Int32) = (nI g) := rfl
    refine lv_icmp_ne (tgt := 224) hx hb dL_isCell_202 (by decide) (fun q => absurd c_202 q) (fun _ => ?_)
    refine lv_iload hx hb dL_isCell_205 (lv_at hl 0 rfl) ?_
    have c_207 : (0 : Int32) ≤ (nI g) := Int32.not_lt.mp (nI_pos (by omega))
    refine lv_if_ge (tgt := 220) hx hb dL_isCell_207 (by decide) (fun _ => ?_) (fun q => absurd c_207 q)
    refine lv_iconst (v := 1) hx hb dL_isCell_220 (by decide) ?_
    refine lv_goto (tgt := 225) hx hb dL_isCell_221 (by decide) ?_
    refine lv_istore (lv' := [(6, .int 1), (7, .int (nI g)), (5, .int (nI g)), (4, .int 1), (3, .int 0), (0, .ref xo), (1, .int (nI xc)), (2, .int (nI xr))]) hx hb dL_isCell_225 hl (by decide) rfl (fun ls hl => ?_)
    refine lv_iload hx hb dL_isCell_227 (lv_at hl 0 rfl) ?_
    exact W.zret (v := 1) (ty := .boolean) hx hb hr (rfl) (fun t9 ht9 hW9 => ⟨⟨1, u_178, rfl, ⟨rfl, hJ⟩, by rw [ht9]; exact hP, hD⟩, hS.F ht9⟩) hS.2.2 dL_isCell_229
  · skip
    refine lv_aload_n hx hb dL_isCell_0 rfl (lv_at hl 0 rfl) ?_
    refine lv_iload_n hx hb dL_isCell_1 rfl (lv_at hl 1 rfl) ?_
    refine lv_iload_n hx hb dL_isCell_2 rfl (lv_at hl 2 rfl) ?_
    refine lv_iconst (v := 0) hx hb dL_isCell_3 (by decide) ?_
    refine cB_i hJ.hd CF hK hN hA hS hP hD (b_cellOf l D cI cZ cW cJ A X xo S XB xc xr 0 (by omega) (by omega) (by decide) hJ) (cwV 3 hts gL_isCell_X8_cellOf rfl rfl rfl (by decide +kernel) ⟨Nat.le_of_ble_eq_true rfl, Nat.le_of_ble_eq_true rfl⟩) (As := [.int (nI xc), .int (nI xr), .int 0]) (rest := []) rfl hl.1 rfl (Nat.le_of_ble_eq_true rfl) dL_isCell_4 ⟨Nat.le_of_ble_eq_true rfl, Nat.le_of_ble_eq_true rfl⟩ (fun r_4 u_4 H locs hq hP hD hS => ?_)
    obtain ⟨hrv, hJ⟩ := hq
    subst hrv
    refine top_i (y := 0) h0 ?_
    refine lv_iconst (v := 1) hx hb dL_isCell_7 (by decide) ?_
    have c_8 : ¬ (0 : Int32) = 1 := by decide
    refine lv_icmp_ne (tgt := 15) hx hb dL_isCell_8 (by decide) (fun _ => ?_) (fun q => absurd q c_8)
    refine lv_iconst (v := 0) hx hb dL_isCell_15 (by decide) ?_
    refine lv_istore_n (lv' := [(3, .int 0), (0, .ref xo), (1, .int (nI xc)), (2, .int (nI xr))]) hx hb dL_isCell_16 rfl hl (by decide) rfl (fun ls hl => ?_)
    refine lv_aload_n hx hb dL_isCell_17 rfl (lv_at hl 1 rfl) ?_
    refine lv_iload_n hx hb dL_isCell_18 rfl (lv_at hl 2 rfl) ?_
    refine lv_iload_n hx hb dL_isCell_19 rfl (lv_at hl 3 rfl) ?_
    refine lv_iconst (v := 1) hx hb dL_isCell_20 (by decide) ?_
    refine cB_i hJ.hd CF hK hN hA hS hP hD (b_cellOf l D cI cZ cW cJ A X xo S u_4 xc xr 1 (by omega) (by omega) (by decide) hJ) (cwV 3 hts gL_isCell_X8_cellOf rfl rfl rfl (by decide +kernel) ⟨Nat.le_of_ble_eq_true rfl, Nat.le_of_ble_eq_true rfl⟩) (As := [.int (nI xc), .int (nI xr), .int 1]) (rest := []) rfl hl.1 rfl (Nat.le_of_ble_eq_true rfl) dL_isCell_21 ⟨Nat.le_of_ble_eq_true rfl, Nat.le_of_ble_eq_true rfl⟩ (fun r_21 u_21 H locs hq hP hD hS => ?_)
    obtain ⟨hrv, hJ⟩ := hq
    subst hrv
    refine top_i (y := 1) h1 ?_
    refine lv_iconst (v := 1) hx hb dL_isCell_24 (by decide) ?_
    have c_25 : (1 : Int32) = 1 := rfl
    refine lv_icmp_ne (tgt := 32) hx hb dL_isCell_25 (by decide) (fun q => absurd c_25 q) (fun _ => ?_)
    refine lv_iconst (v := 1) hx hb dL_isCell_28 (by decide) ?_
    refine lv_goto (tgt := 33) hx hb dL_isCell_29 (by decide) ?_
    refine lv_istore (lv' := [(4, .int 1), (3, .int 0), (0, .ref xo), (1, .int (nI xc)), (2, .int (nI xr))]) hx hb dL_isCell_33 hl (by decide) rfl (fun ls hl => ?_)
    refine lv_aload_n hx hb dL_isCell_35 rfl (lv_at hl 2 rfl) ?_
    refine lv_iload_n hx hb dL_isCell_36 rfl (lv_at hl 3 rfl) ?_
    refine lv_iload_n hx hb dL_isCell_37 rfl (lv_at hl 4 rfl) ?_
    refine lv_iconst (v := 2) hx hb dL_isCell_38 (by decide) ?_
    refine cB_i hJ.hd CF hK hN hA hS hP hD (b_cellOf l D cI cZ cW cJ A X xo S u_21 xc xr 2 (by omega) (by omega) (by decide) hJ) (cwV 3 hts gL_isCell_X8_cellOf rfl rfl rfl (by decide +kernel) ⟨Nat.le_of_ble_eq_true rfl, Nat.le_of_ble_eq_true rfl⟩) (As := [.int (nI xc), .int (nI xr), .int 2]) (rest := []) rfl hl.1 rfl (Nat.le_of_ble_eq_true rfl) dL_isCell_39 ⟨Nat.le_of_ble_eq_true rfl, Nat.le_of_ble_eq_true rfl⟩ (fun r_39 u_39 H locs hq hP hD hS => ?_)
    obtain ⟨hrv, hJ⟩ := hq
    subst hrv
    refine top_i (y := (nI g)) h2 ?_
    refine lv_istore (lv' := [(5, .int (nI g)), (4, .int 1), (3, .int 0), (0, .ref xo), (1, .int (nI xc)), (2, .int (nI xr))]) hx hb dL_isCell_42 hl (by decide) rfl (fun ls hl => ?_)
    refine lv_iload hx hb dL_isCell_44 (lv_at hl 1 rfl) ?_
    refine lv_iload_n hx hb dL_isCell_46 rfl (lv_at hl 2 rfl) ?_
    have c_47 : (0 : Int32) = 0 := rfl
    refine lv_if_ne (tgt := 71) hx hb dL_isCell_47 (by decide) (fun q => absurd c_47 q) (fun _ => ?_)
    refine lv_iload_n hx hb dL_isCell_50 rfl (lv_at hl 5 rfl) ?_
    have c_51 : ¬ ((nI xr) : Int32) = 0 := nI_ne0 (by omega) (by omega)
    refine lv_if_eq (tgt := 67) hx hb dL_isCell_51 (by decide) (fun q => absurd q c_51) (fun _ => ?_)
    refine lv_aload_n hx hb dL_isCell_54 rfl (lv_at hl 3 rfl) ?_
    refine lv_iload_n hx hb dL_isCell_55 rfl (lv_at hl 4 rfl) ?_
    refine lv_iload_n hx hb dL_isCell_56 rfl (lv_at hl 5 rfl) ?_
    refine lv_iconst (v := 1) hx hb dL_isCell_57 (by decide) ?_
    refine lv_isub hx hb dL_isCell_58 ?_
    refine top_i (y := (nI (xr - 1))) (pk_sub (a := xr) (b := 1) (by omega)) ?_
    refine lv_iconst (v := 0) hx hb dL_isCell_59 (by decide) ?_
    refine cB_i hJ.hd CF hK hN hA hS hP hD (b_cellOf l D cI cZ cW cJ A X xo S u_39 xc (xr - 1) 0 (by omega) (by omega) (by decide) hJ) (cwV 3 hts gL_isCell_X8_cellOf rfl rfl rfl (by decide +kernel) ⟨Nat.le_of_ble_eq_true rfl, Nat.le_of_ble_eq_true rfl⟩) (As := [.int (nI xc), .int (nI (xr - 1)), .int 0]) (rest := [.int 1]) rfl hl.1 rfl (Nat.le_of_ble_eq_true rfl) dL_isCell_60 ⟨Nat.le_of_ble_eq_true rfl, Nat.le_of_ble_eq_true rfl⟩ (fun r_60 u_60 H locs hq hP hD hS => ?_)
    obtain ⟨hrv, hJ⟩ := hq
    subst hrv
    refine top_i (y := 1) h5b ?_
    refine lv_iconst (v := 1) hx hb dL_isCell_63 (by decide) ?_
    have c_64 : (1 : Int32) = 1 := rfl
    refine lv_icmp_ne (tgt := 71) hx hb dL_isCell_64 (by decide) (fun q => absurd c_64 q) (fun _ => ?_)
    refine lv_iconst (v := 1) hx hb dL_isCell_67 (by decide) ?_
    refine lv_goto (tgt := 72) hx hb dL_isCell_68 (by decide) ?_
    have c_72 : (1 : Int32) = 1 := rfl
    refine lv_icmp_ne (tgt := 134) hx hb dL_isCell_72 (by decide) (fun q => absurd c_72 q) (fun _ => ?_)
    refine lv_iload hx hb dL_isCell_75 (lv_at hl 0 rfl) ?_
    have c_77 : ¬ ((nI g) : Int32) < 0 := nI_pos (by omega)
    refine lv_if_lt (tgt := 84) hx hb dL_isCell_77 (by decide) (fun q => absurd q c_77) (fun _ => ?_)
    refine lv_iconst (v := 1) hx hb dL_isCell_80 (by decide) ?_
    refine lv_goto (tgt := 85) hx hb dL_isCell_81 (by decide) ?_
    refine lv_iload hx hb dL_isCell_85 (lv_at hl 1 rfl) ?_
    have c_87 : (1 : Int32) = 1 := rfl
    refine lv_icmp_ne (tgt := 134) hx hb dL_isCell_87 (by decide) (fun q => absurd c_87 q) (fun _ => ?_)
    refine lv_aload_n hx hb dL_isCell_90 rfl (lv_at hl 3 rfl) ?_
    refine lv_iload_n hx hb dL_isCell_91 rfl (lv_at hl 4 rfl) ?_
    refine lv_iload_n hx hb dL_isCell_92 rfl (lv_at hl 5 rfl) ?_
    refine lv_iconst (v := 3) hx hb dL_isCell_93 (by decide) ?_
    refine cB_i hJ.hd CF hK hN hA hS hP hD (b_cellOf l D cI cZ cW cJ A X xo S u_60 xc xr 3 (by omega) (by omega) (by decide) hJ) (cwV 3 hts gL_isCell_X8_cellOf rfl rfl rfl (by decide +kernel) ⟨Nat.le_of_ble_eq_true rfl, Nat.le_of_ble_eq_true rfl⟩) (As := [.int (nI xc), .int (nI xr), .int 3]) (rest := []) rfl hl.1 rfl (Nat.le_of_ble_eq_true rfl) dL_isCell_94 ⟨Nat.le_of_ble_eq_true rfl, Nat.le_of_ble_eq_true rfl⟩ (fun r_94 u_94 H locs hq hP hD hS => ?_)
    obtain ⟨hrv, hJ⟩ := hq
    subst hrv
    refine top_i (y := 0) h9 ?_
    have c_97 : ¬ (0 : Int32) < 0 := Int32.lt_irrefl
    refine lv_if_lt (tgt := 104) hx hb dL_isCell_97 (by decide) (fun q => absurd q c_97) (fun _ => ?_)
    refine lv_iconst (v := 1) hx hb dL_isCell_100 (by decide) ?_
    refine lv_goto (tgt := 105) hx hb dL_isCell_101 (by decide) ?_
    refine lv_iload hx hb dL_isCell_105 (lv_at hl 1 rfl) ?_
    have c_107 : (1 : Int32) = 1 := rfl
    refine lv_icmp_ne (tgt := 134) hx hb dL_isCell_107 (by decide) (fun q => absurd c_107 q) (fun _ => ?_)
    refine lv_aload_n hx hb dL_isCell_110 rfl (lv_at hl 3 rfl) ?_
    refine lv_iload_n hx hb dL_isCell_111 rfl (lv_at hl 4 rfl) ?_
    refine lv_iload_n hx hb dL_isCell_112 rfl (lv_at hl 5 rfl) ?_
    refine lv_iconst (v := 4) hx hb dL_isCell_113 (by decide) ?_
    refine cB_i hJ.hd CF hK hN hA hS hP hD (b_cellOf l D cI cZ cW cJ A X xo S u_94 xc xr 4 (by omega) (by omega) (by decide) hJ) (cwV 3 hts gL_isCell_X8_cellOf rfl rfl rfl (by decide +kernel) ⟨Nat.le_of_ble_eq_true rfl, Nat.le_of_ble_eq_true rfl⟩) (As := [.int (nI xc), .int (nI xr), .int 4]) (rest := []) rfl hl.1 rfl (Nat.le_of_ble_eq_true rfl) dL_isCell_114 ⟨Nat.le_of_ble_eq_true rfl, Nat.le_of_ble_eq_true rfl⟩ (fun r_114 u_114 H locs hq hP hD hS => ?_)
    obtain ⟨hrv, hJ⟩ := hq
    subst hrv
    refine top_i (y := (nI g4)) h4 ?_
    have c_117 : ¬ ((nI g4) : Int32) < 0 := nI_pos (by omega)
    refine lv_if_lt (tgt := 124) hx hb dL_isCell_117 (by decide) (fun q => absurd q c_117) (fun _ => ?_)
    refine lv_iconst (v := 1) hx hb dL_isCell_120 (by decide) ?_
    refine lv_goto (tgt := 125) hx hb dL_isCell_121 (by decide) ?_
    refine lv_iload hx hb dL_isCell_125 (lv_at hl 1 rfl) ?_
    have c_127 : (1 : Int32) = 1 := rfl
    refine lv_icmp_ne (tgt := 134) hx hb dL_isCell_127 (by decide) (fun q => absurd c_127 q) (fun _ => ?_)
    refine lv_iconst (v := 1) hx hb dL_isCell_130 (by decide) ?_
    refine lv_goto (tgt := 135) hx hb dL_isCell_131 (by decide) ?_
    refine lv_istore (lv' := [(6, .int 1), (5, .int (nI g)), (4, .int 1), (3, .int 0), (0, .ref xo), (1, .int (nI xc)), (2, .int (nI xr))]) hx hb dL_isCell_135 hl (by decide) rfl (fun ls hl => ?_)
    refine lv_iload hx hb dL_isCell_137 (lv_at hl 0 rfl) ?_
    have c_139 : ¬ (1 : Int32) = 0 := by decide
    refine lv_if_eq (tgt := 227) hx hb dL_isCell_139 (by decide) (fun q => absurd q c_139) (fun _ => ?_)
    refine lv_iload hx hb dL_isCell_142 (lv_at hl 2 rfl) ?_
    have c_144 : ¬ (1 : Int32) = 0 := by decide
    refine lv_if_eq (tgt := 227) hx hb dL_isCell_144 (by decide) (fun q => absurd q c_144) (fun _ => ?_)
    refine lv_iload_n hx hb dL_isCell_147 rfl (lv_at hl 5 rfl) ?_
    have c_148 : ¬ ((nI xc) : Int32) ≤ 0 := nI_nle (by omega) (by omega)
    refine lv_if_le (tgt := 227) hx hb dL_isCell_148 (by decide) (fun q => absurd q c_148) (fun _ => ?_)
    refine lv_aload_n hx hb dL_isCell_151 rfl (lv_at hl 4 rfl) ?_
    refine lv_iload_n hx hb dL_isCell_152 rfl (lv_at hl 5 rfl) ?_
    refine lv_iconst (v := 1) hx hb dL_isCell_153 (by decide) ?_
    refine lv_isub hx hb dL_isCell_154 ?_
    refine top_i (y := (nI (xc - 1))) (pk_sub (a := xc) (b := 1) (by omega)) ?_
    refine lv_iload_n hx hb dL_isCell_155 rfl (lv_at hl 6 rfl) ?_
    refine lv_iconst (v := 2) hx hb dL_isCell_156 (by decide) ?_
    refine cB_i hJ.hd CF hK hN hA hS hP hD (b_cellOf l D cI cZ cW cJ A X xo S u_114 (xc - 1) xr 2 (by omega) (by omega) (by decide) hJ) (cwV 3 hts gL_isCell_X8_cellOf rfl rfl rfl (by decide +kernel) ⟨Nat.le_of_ble_eq_true rfl, Nat.le_of_ble_eq_true rfl⟩) (As := [.int (nI (xc - 1)), .int (nI xr), .int 2]) (rest := []) rfl hl.1 rfl (Nat.le_of_ble_eq_true rfl) dL_isCell_157 ⟨Nat.le_of_ble_eq_true rfl, Nat.le_of_ble_eq_true rfl⟩ (fun r_157 u_157 H locs hq hP hD hS => ?_)
    obtain ⟨hrv, hJ⟩ := hq
    subst hrv
    refine top_i (y := (-1)) h8 ?_
    refine lv_istore (lv' := [(7, .int (-1)), (6, .int 1), (5, .int (nI g)), (4, .int 1), (3, .int 0), (0, .ref xo), (1, .int (nI xc)), (2, .int (nI xr))]) hx hb dL_isCell_160 hl (by decide) rfl (fun ls hl => ?_)
    refine lv_iload hx hb dL_isCell_162 (lv_at hl 0 rfl) ?_
    have c_164 : ((-1) : Int32) < 0 := by decide
    refine lv_if_lt (tgt := 171) hx hb dL_isCell_164 (by decide) (fun _ => ?_) (fun q => absurd c_164 q)
    refine lv_iconst (v := 0) hx hb dL_isCell_171 (by decide) ?_
    refine lv_aload_n hx hb dL_isCell_172 rfl (lv_at hl 5 rfl) ?_
    refine lv_iload_n hx hb dL_isCell_173 rfl (lv_at hl 6 rfl) ?_
    refine lv_iconst (v := 1) hx hb dL_isCell_174 (by decide) ?_
    refine lv_isub hx hb dL_isCell_175 ?_
    refine top_i (y := (nI (xc - 1))) (pk_sub (a := xc) (b := 1) (by omega)) ?_
    refine lv_iload_n hx hb dL_isCell_176 rfl (lv_at hl 7 rfl) ?_
    refine lv_iconst (v := 1) hx hb dL_isCell_177 (by decide) ?_
    refine cB_i hJ.hd CF hK hN hA hS hP hD (b_cellOf l D cI cZ cW cJ A X xo S u_157 (xc - 1) xr 1 (by omega) (by omega) (by decide) hJ) (cwV 3 hts gL_isCell_X8_cellOf rfl rfl rfl (by decide +kernel) ⟨Nat.le_of_ble_eq_true rfl, Nat.le_of_ble_eq_true rfl⟩) (As := [.int (nI (xc - 1)), .int (nI xr), .int 1]) (rest := [.int 0]) rfl hl.1 rfl (Nat.le_of_ble_eq_true rfl) dL_isCell_178 ⟨Nat.le_of_ble_eq_true rfl, Nat.le_of_ble_eq_true rfl⟩ (fun r_178 u_178 H locs hq hP hD hS => ?_)
    obtain ⟨hrv, hJ⟩ := hq
    subst hrv
    refine top_i (y := 0) h7 ?_
    refine lv_iconst (v := 1) hx hb dL_isCell_181 (by decide) ?_
    have c_182 : ¬ (0 : Int32) = 1 := by decide
    refine lv_icmp_ne (tgt := 189) hx hb dL_isCell_182 (by decide) (fun _ => ?_) (fun q => absurd q c_182)
    refine lv_iconst (v := 0) hx hb dL_isCell_189 (by decide) ?_
    have c_190 : (0 : Int32) = 0 := rfl
    refine lv_icmp_ne (tgt := 224) hx hb dL_isCell_190 (by decide) (fun q => absurd c_190 q) (fun _ => ?_)
    refine lv_iload hx hb dL_isCell_193 (lv_at hl 0 rfl) ?_
    have c_195 : ((-1) : Int32) < 0 := by decide
    refine lv_if_lt (tgt := 205) hx hb dL_isCell_195 (by decide) (fun _ => ?_) (fun q => absurd c_195 q)
    refine lv_iload hx hb dL_isCell_205 (lv_at hl 0 rfl) ?_
    have c_207 : ¬ (0 : Int32) ≤ (-1) := by decide
    refine lv_if_ge (tgt := 220) hx hb dL_isCell_207 (by decide) (fun q => absurd q c_207) (fun _ => ?_)
    refine lv_aload_n hx hb dL_isCell_210 rfl (lv_at hl 5 rfl) ?_
    refine lv_iload_n hx hb dL_isCell_211 rfl (lv_at hl 6 rfl) ?_
    refine lv_iload_n hx hb dL_isCell_212 rfl (lv_at hl 7 rfl) ?_
    refine lv_iconst (v := 3) hx hb dL_isCell_213 (by decide) ?_
    refine cB_i hJ.hd CF hK hN hA hS hP hD (b_cellOf l D cI cZ cW cJ A X xo S u_178 xc xr 3 (by omega) (by omega) (by decide) hJ) (cwV 3 hts gL_isCell_X8_cellOf rfl rfl rfl (by decide +kernel) ⟨Nat.le_of_ble_eq_true rfl, Nat.le_of_ble_eq_true rfl⟩) (As := [.int (nI xc), .int (nI xr), .int 3]) (rest := []) rfl hl.1 rfl (Nat.le_of_ble_eq_true rfl) dL_isCell_214 ⟨Nat.le_of_ble_eq_true rfl, Nat.le_of_ble_eq_true rfl⟩ (fun r_214 u_214 H locs hq hP hD hS => ?_)
    obtain ⟨hrv, hJ⟩ := hq
    subst hrv
    refine top_i (y := 0) h9 ?_
    have c_217 : (0 : Int32) = 0 := rfl
    refine lv_if_ne (tgt := 224) hx hb dL_isCell_217 (by decide) (fun q => absurd c_217 q) (fun _ => ?_)
    refine lv_iconst (v := 1) hx hb dL_isCell_220 (by decide) ?_
    refine lv_goto (tgt := 225) hx hb dL_isCell_221 (by decide) ?_
    refine lv_istore (lv' := [(6, .int 1), (7, .int (-1)), (5, .int (nI g)), (4, .int 1), (3, .int 0), (0, .ref xo), (1, .int (nI xc)), (2, .int (nI xr))]) hx hb dL_isCell_225 hl (by decide) rfl (fun ls hl => ?_)
    refine lv_iload hx hb dL_isCell_227 (lv_at hl 0 rfl) ?_
    exact W.zret (v := 1) (ty := .boolean) hx hb hr (rfl) (fun t9 ht9 hW9 => ⟨⟨1, u_214, rfl, ⟨rfl, hJ⟩, by rw [ht9]; exact hP, hD⟩, hS.F ht9⟩) hS.2.2 dL_isCell_229
set_option maxHeartbeats 4000000 in
set_option maxRecDepth 100000 in
theorem l_areArcs (l : Launch) (D : va_G) (cI cZ cW cJ : ClassId) (A : Nat → Prop) (X : va_W) (xo : Nat) (S : KS) (XB : va_W) (hJ : YJ cI cZ cW xo S XB) : Met l yL_areArcs wsL_areArcs ({ frames := 4, cells := 0, slots := 0, locals := 84 }) (va_Pc [.ref xo] (wd D (tyL cI cZ cW cJ) A ((X ++ XB)))) (va_Qi (fun (r : Int32) (u : va_W) => r = 1 ∧ YJ cI cZ cW xo S u) (fun (u : va_W) t => wq D A ((X ++ u)) t) A) 0 0 A := by
  refine Met.ofW (cc := cL_areArcs) (maxL := 4) (ret := (some .boolean)) (by decide) rfl ?_
  intro p e s m args below meth c s₁ B hml hv
  obtain ⟨rfl, hsz9, hP, hK, hD, hN⟩ := hv
  have hx := B.exec
  have hb := B.bytes
  have hr := B.returns
  have hts := atoms_spec (ws := wsL_areArcs) B.pre
  have hown : s.vm.findClass RL = some m.cls := findClass_of_methodNamed B.named
  have hlocks := B.notSynchronized
  have CF : CallFix p m c cL_areArcs 4 s _ wsL_areArcs RL := ⟨hx, hb, hml, hown, hts⟩
  have hA : ∀ q : Nat, s.heap.size ≤ q → A q := hsz9
  have hS : va_S A s.heap s.heap [] := va_S.rf
  have hl := lv_entry ([.ref xo]) (n := 4) (Nat.le_of_ble_eq_true rfl)
  rw [lg_entry_eq]
  generalize (lg_sl ([.ref xo]) ++ List.replicate (4 - (lg_sl ([.ref xo])).length) Slot.unset).toArray = ls at hl ⊢
  have hl : lv_has ls 4 [(0, .ref xo)] := hl
  show W p l e ({ frames := 4, cells := 0, slots := 0, locals := 84 } : Room) s m (([.ref xo] : List Value).toArray) below meth c s.heap [] 0 0 (MQ below (va_Qi (fun (r : Int32) (u : va_W) => r = 1 ∧ YJ cI cZ cW xo S u) (fun (u : va_W) t => wq D A ((X ++ u)) t) A) (([.ref xo] : List Value).toArray) s 0 0 A) (F0 m 0 ls [])
  obtain ⟨na, nf, ns, ha, hf, hs, ea, ef, es⟩ := hJ.wf.1
  refine lv_iconst (v := 0) hx hb dL_areArcs_0 (by decide) ?_
  refine lv_istore_n (lv' := [(1, .int 0), (0, .ref xo)]) hx hb dL_areArcs_1 rfl hl (by decide) rfl (fun ls hl => ?_)
  refine lv_aload_n hx hb dL_areArcs_2 rfl (lv_at hl 1 rfl) ?_
  refine lv_iconst (v := 0) hx hb dL_areArcs_3 (by decide) ?_
  refine cB_i hJ.hd CF hK hN hA hS hP hD (b_setting l D cI cZ cW cJ A X xo S XB 0 (by decide) hJ) (cwV 1 hts gL_areArcs_X8_setting rfl rfl rfl (by decide +kernel) ⟨Nat.le_of_ble_eq_true rfl, Nat.le_of_ble_eq_true rfl⟩) (As := [.int 0]) (rest := []) rfl hl.1 rfl (Nat.le_of_ble_eq_true rfl) dL_areArcs_4 ⟨Nat.le_of_ble_eq_true rfl, Nat.le_of_ble_eq_true rfl⟩ (fun r_4 u_4 H locs hq hP hD hS => ?_)
  obtain ⟨hrv, hJ⟩ := hq
  subst hrv
  refine top_i (y := (nI na)) ea ?_
  refine lv_istore_n (lv' := [(2, .int (nI na)), (1, .int 0), (0, .ref xo)]) hx hb dL_areArcs_7 rfl hl (by decide) rfl (fun ls hl => ?_)
  refine lv_iconst (v := 0) hx hb dL_areArcs_8 (by decide) ?_
  refine lv_istore_n (lv' := [(3, .int 0), (2, .int (nI na)), (1, .int 0), (0, .ref xo)]) hx hb dL_areArcs_9 rfl hl (by decide) rfl (fun ls hl => ?_)
  have loop_10 : ∀ (nfu : Nat) (tk : Nat) (hh rr : Int32) (XB9 : va_W) (hn_10 : 31 - tk < nfu) (ht9 : tk ≤ 31) (hh1 : hh = haoF (nI tk) (nI na) (nI nf)) (rr1 : rr = rsF na nf tk) (hJ : YJ cI cZ cW xo S XB9) (H : Heap) (locs : List Loc) (hP : va_P D vwCl ((X ++ XB9)) H) (hD : va_D A ((X ++ XB9))) (hS : va_S A s.heap H locs) (ls : Array Slot) (hl : lv_has ls 4 [(3, .int (nI tk)), (2, .int rr), (1, .int hh), (0, .ref xo)]), W p l e ({ frames := 4, cells := 0, slots := 0, locals := 84 } : Room) s m (([.ref xo] : List Value).toArray) below meth c H locs 0 0 (MQ below (va_Qi (fun (r : Int32) (u : va_W) => r = 1 ∧ YJ cI cZ cW xo S u) (fun (u : va_W) t => wq D A ((X ++ u)) t) A) (([.ref xo] : List Value).toArray) s 0 0 A) (F0 m 10 ls []) := by
    intro nfu
    induction nfu with
    | zero => intro tk hh rr XB9 hn_10; exact absurd hn_10 (Nat.not_lt_zero _)
    | succ nfu ih_10 =>
      intro tk hh rr XB9 hn_10 ht9 hh1 rr1 hJ H locs hP hD hS ls hl
      refine lv_iload_n hx hb dL_areArcs_10 rfl (lv_at hl 0 rfl) ?_
      refine lv_bipush (v := 30) hx hb dL_areArcs_11 (by decide) ?_
      refine lv_icmp_gt (tgt := 74) hx hb dL_areArcs_13 (by decide) (fun c_13 => ?_) (fun c_13 => ?_)
      · refine lv_iconst (v := 1) hx hb dL_areArcs_74 (by decide) ?_
        exact W.zret (v := 1) (ty := .boolean) hx hb hr (rfl) (fun t9 ht9 hW9 => ⟨⟨1, XB9, rfl, ⟨rfl, hJ⟩, by rw [ht9]; exact hP, hD⟩, hS.F ht9⟩) hS.2.2 dL_areArcs_75
      · have htk : tk ≤ 30 := le_of_nlt (a := 30) (b := tk) (by decide) (by omega) c_13
        have harc : arcS S tk = 200 + hh := by rw [hh1]; show 200 + haoF (nI tk) S.2.1.1 S.2.1.2.1 = _; rw [ea, ef]
        obtain ⟨st1, st2⟩ := arc_step na ha.1 nf hf.1 hf.2 tk (by omega)
        refine lv_aload_n hx hb dL_areArcs_16 rfl (lv_at hl 3 rfl) ?_
        refine lv_iload_n hx hb dL_areArcs_17 rfl (lv_at hl 0 rfl) ?_
        refine lv_iconst (v := 0) hx hb dL_areArcs_18 (by decide) ?_
        refine cB_i hJ.hd CF hK hN hA hS hP hD (b_arc l D cI cZ cW cJ A X xo S XB9 tk 0 (by omega) (by decide) hJ) (cwV 2 hts gL_areArcs_X8_arc rfl rfl rfl (by decide +kernel) ⟨Nat.le_of_ble_eq_true rfl, Nat.le_of_ble_eq_true rfl⟩) (As := [.int (nI tk), .int 0]) (rest := []) rfl hl.1 rfl (Nat.le_of_ble_eq_true rfl) dL_areArcs_19 ⟨Nat.le_of_ble_eq_true rfl, Nat.le_of_ble_eq_true rfl⟩ (fun r_19 u_19 H locs hq hP hD hS => ?_)
        obtain ⟨hrv, hJ⟩ := hq
        subst hrv
        refine top_i (y := (200 + hh)) harc ?_
        refine lv_sipush (v := 200) hx hb dL_areArcs_22 (by decide) ?_
        refine lv_iload_n hx hb dL_areArcs_25 rfl (lv_at hl 2 rfl) ?_
        refine lv_iadd hx hb dL_areArcs_26 ?_
        have c_27 : ((200 + hh) : Int32) = (200 + hh) := rfl
        refine lv_icmp_ne (tgt := 44) hx hb dL_areArcs_27 (by decide) (fun q => absurd c_27 q) (fun _ => ?_)
        refine lv_aload_n hx hb dL_areArcs_30 rfl (lv_at hl 3 rfl) ?_
        refine lv_iload_n hx hb dL_areArcs_31 rfl (lv_at hl 0 rfl) ?_
        refine lv_iconst (v := 1) hx hb dL_areArcs_32 (by decide) ?_
        refine cB_i hJ.hd CF hK hN hA hS hP hD (b_arc l D cI cZ cW cJ A X xo S u_19 tk 1 (by omega) (by decide) hJ) (cwV 2 hts gL_areArcs_X8_arc rfl rfl rfl (by decide +kernel) ⟨Nat.le_of_ble_eq_true rfl, Nat.le_of_ble_eq_true rfl⟩) (As := [.int (nI tk), .int 1]) (rest := []) rfl hl.1 rfl (Nat.le_of_ble_eq_true rfl) dL_areArcs_33 ⟨Nat.le_of_ble_eq_true rfl, Nat.le_of_ble_eq_true rfl⟩ (fun r_33 u_33 H locs hq hP hD hS => ?_)
        obtain ⟨hrv, hJ⟩ := hq
        subst hrv
        refine top_i (y := (200 + hh)) harc ?_
        refine lv_sipush (v := 200) hx hb dL_areArcs_36 (by decide) ?_
        refine lv_iload_n hx hb dL_areArcs_39 rfl (lv_at hl 2 rfl) ?_
        refine lv_iadd hx hb dL_areArcs_40 ?_
        have c_41 : ((200 + hh) : Int32) = (200 + hh) := rfl
        refine lv_icmp_eq (tgt := 46) hx hb dL_areArcs_41 (by decide) (fun _ => ?_) (fun q => absurd c_41 q)
        refine lv_iload_n hx hb dL_areArcs_46 rfl (lv_at hl 2 rfl) ?_
        refine lv_iload_n hx hb dL_areArcs_47 rfl (lv_at hl 1 rfl) ?_
        refine lv_iadd hx hb dL_areArcs_48 ?_
        refine lv_istore_n (lv' := [(1, .int (hh + rr)), (3, .int (nI tk)), (2, .int rr), (0, .ref xo)]) hx hb dL_areArcs_49 rfl hl (by decide) rfl (fun ls hl => ?_)
        refine lv_iload_n hx hb dL_areArcs_50 rfl (lv_at hl 2 rfl) ?_
        refine lv_aload_n hx hb dL_areArcs_51 rfl (lv_at hl 3 rfl) ?_
        refine lv_iconst (v := 1) hx hb dL_areArcs_52 (by decide) ?_
        refine cB_i hJ.hd CF hK hN hA hS hP hD (b_setting l D cI cZ cW cJ A X xo S u_33 1 (by decide) hJ) (cwV 1 hts gL_areArcs_X8_setting rfl rfl rfl (by decide +kernel) ⟨Nat.le_of_ble_eq_true rfl, Nat.le_of_ble_eq_true rfl⟩) (As := [.int 1]) (rest := [.int rr]) rfl hl.1 rfl (Nat.le_of_ble_eq_true rfl) dL_areArcs_53 ⟨Nat.le_of_ble_eq_true rfl, Nat.le_of_ble_eq_true rfl⟩ (fun r_53 u_53 H locs hq hP hD hS => ?_)
        obtain ⟨hrv, hJ⟩ := hq
        subst hrv
        refine top_i (y := (nI nf)) ef ?_
        refine lv_ineg hx hb dL_areArcs_56 ?_
        refine lv_icmp_le (tgt := 66) hx hb dL_areArcs_57 (by decide) (fun c_57 => ?_) (fun c_57 => ?_)
        · refine lv_iload_n hx hb dL_areArcs_66 rfl (lv_at hl 2 rfl) ?_
          refine lv_istore_n (lv' := [(2, .int rr), (1, .int (hh + rr)), (3, .int (nI tk)), (0, .ref xo)]) hx hb dL_areArcs_67 rfl hl (by decide) rfl (fun ls hl => ?_)
          refine lv_iinc (v := (nI (tk + 1))) (lv' := [(3, .int (nI (tk + 1))), (2, .int rr), (1, .int (hh + rr)), (0, .ref xo)]) hx hb dL_areArcs_68 hl (k := 2) rfl (nI_1 tk) (by decide) rfl (fun ls hl => ?_)
          refine lv_goto (tgt := 10) hx hb dL_areArcs_71 (by decide) ?_
          exact ih_10 (tk + 1) (hh + rr) rr u_53 (by omega) (by omega) (by rw [st1, ← hh1, ← rr1]) (by rw [← st2, ← rr1]; exact (if_neg (fun q => Int32.not_lt.mpr c_57 q)).symm) (hJ) _ _ (hP) (hD) hS _ (lv_sub hl [0, 1, 2, 3] rfl)
        · refine lv_iload_n hx hb dL_areArcs_60 rfl (lv_at hl 2 rfl) ?_
          refine lv_iconst (v := 1) hx hb dL_areArcs_61 (by decide) ?_
          refine lv_isub hx hb dL_areArcs_62 ?_
          refine lv_goto (tgt := 67) hx hb dL_areArcs_63 (by decide) ?_
          refine lv_istore_n (lv' := [(2, .int (rr - 1)), (1, .int (hh + rr)), (3, .int (nI tk)), (0, .ref xo)]) hx hb dL_areArcs_67 rfl hl (by decide) rfl (fun ls hl => ?_)
          refine lv_iinc (v := (nI (tk + 1))) (lv' := [(3, .int (nI (tk + 1))), (2, .int (rr - 1)), (1, .int (hh + rr)), (0, .ref xo)]) hx hb dL_areArcs_68 hl (k := 2) rfl (nI_1 tk) (by decide) rfl (fun ls hl => ?_)
          refine lv_goto (tgt := 10) hx hb dL_areArcs_71 (by decide) ?_
          exact ih_10 (tk + 1) (hh + rr) (rr - 1) u_53 (by omega) (by omega) (by rw [st1, ← hh1, ← rr1]) (by rw [← st2, ← rr1]; exact (if_pos (Int32.not_le.mp c_57)).symm) (hJ) _ _ (hP) (hD) hS _ (lv_sub hl [0, 1, 2, 3] rfl)
  exact loop_10 _ 0 0 (nI na) u_4 (Nat.lt_succ_self _) (by omega) ((arc_0 na ha.1 nf hf.1).1.symm) ((arc_0 na ha.1 nf hf.1).2.symm) (hJ) _ _ hP hD hS _ (lv_sub hl [0, 1, 2, 3] rfl)
set_option maxHeartbeats 4000000 in
set_option maxRecDepth 100000 in
theorem l_leaps (l : Launch) (D : va_G) (cI cZ cW cJ : ClassId) (A : Nat → Prop) (X : va_W) (xo : Nat) (S : KS) (XB : va_W) (xc xr ru : Nat) (sd : Int32) (hJ : YJ cI cZ cW xo S XB) (hd : sd = 1 ∨ sd = -1) (hc : xc < 20) (hr9 : xr < 10) (hu : ru ≤ 3) (hst : stB (Bk S.1) (nI xc) (nI xr) = true) : Met l yL_leaps wsL_leaps ({ frames := 7, cells := 0, slots := 0, locals := 169 }) (va_Pc [.ref xo, .int (nI xc), .int (nI xr), .int sd, .int (nI ru)] (wd D (tyL cI cZ cW cJ) A ((X ++ XB)))) (va_Qi (fun (r : Int32) (u : va_W) => r = 1 ∧ YJ cI cZ cW xo S u) (fun (u : va_W) t => wq D A ((X ++ u)) t) A) 0 0 A := by
  refine Met.ofW (cc := cL_leaps) (maxL := 14) (ret := (some .boolean)) (by decide) rfl ?_
  intro p e s m args below meth c s₁ B hml hv
  obtain ⟨rfl, hsz9, hP, hK, hD, hN⟩ := hv
  have hx := B.exec
  have hb := B.bytes
  have hr := B.returns
  have hts := atoms_spec (ws := wsL_leaps) B.pre
  have hown : s.vm.findClass RL = some m.cls := findClass_of_methodNamed B.named
  have hlocks := B.notSynchronized
  have CF : CallFix p m c cL_leaps 14 s _ wsL_leaps RL := ⟨hx, hb, hml, hown, hts⟩
  have hA : ∀ q : Nat, s.heap.size ≤ q → A q := hsz9
  have hS : va_S A s.heap s.heap [] := va_S.rf
  have hl := lv_entry ([.ref xo, .int (nI xc), .int (nI xr), .int sd, .int (nI ru)]) (n := 14) (Nat.le_of_ble_eq_true rfl)
  rw [lg_entry_eq]
  generalize (lg_sl ([.ref xo, .int (nI xc), .int (nI xr), .int sd, .int (nI ru)]) ++ List.replicate (14 - (lg_sl ([.ref xo, .int (nI xc), .int (nI xr), .int sd, .int (nI ru)])).length) Slot.unset).toArray = ls at hl ⊢
  have hl : lv_has ls 14 [(0, .ref xo), (1, .int (nI xc)), (2, .int (nI xr)), (3, .int sd), (4, .int (nI ru))] := hl
  show W p l e ({ frames := 7, cells := 0, slots := 0, locals := 169 } : Room) s m (([.ref xo, .int (nI xc), .int (nI xr), .int sd, .int (nI ru)] : List Value).toArray) below meth c s.heap [] 0 0 (MQ below (va_Qi (fun (r : Int32) (u : va_W) => r = 1 ∧ YJ cI cZ cW xo S u) (fun (u : va_W) t => wq D A ((X ++ u)) t) A) (([.ref xo, .int (nI xc), .int (nI xr), .int sd, .int (nI ru)] : List Value).toArray) s 0 0 A) (F0 m 0 ls [])
  have hn9 : nS S ≤ 100 := nL_le _
  rcases hd with rfl | rfl
  · skip
    refine lv_aload_n hx hb dL_leaps_0 rfl (lv_at hl 0 rfl) ?_
    refine lv_iload_n hx hb dL_leaps_1 rfl (lv_at hl 1 rfl) ?_
    refine lv_iload_n hx hb dL_leaps_2 rfl (lv_at hl 2 rfl) ?_
    refine lv_iload_n hx hb dL_leaps_3 rfl (lv_at hl 3 rfl) ?_
    obtain ⟨m9, hm9, em, (⟨q9, hno⟩ | ⟨q9, tc, tr, tt, tp, k9, wb, e0, e1, e2, e3, e4, hs9, htc, htr, htp1, htp2, htp3, htt1, htt2, hdd, hkk, hww, hEv⟩)⟩ := lps hJ.wf (d := 1) (Or.inl rfl) hc hr9 hu hst
    · skip
      refine lv_iconst (v := 1) hx hb dL_leaps_4 (by decide) ?_
      have c_5 : (1 : Int32) = 1 := rfl
      refine lv_icmp_ne (tgt := 12) hx hb dL_leaps_5 (by decide) (fun q => absurd c_5 q) (fun _ => ?_)
      refine lv_iconst (v := 3) hx hb dL_leaps_8 (by decide) ?_
      refine lv_goto (tgt := 13) hx hb dL_leaps_9 (by decide) ?_
      refine cB_i hJ.hd CF hK hN hA hS hP hD (b_cellOf l D cI cZ cW cJ A X xo S XB xc xr 3 (by omega) (by omega) (by decide) hJ) (cwV 3 hts gL_leaps_X8_cellOf rfl rfl rfl (by decide +kernel) ⟨Nat.le_of_ble_eq_true rfl, Nat.le_of_ble_eq_true rfl⟩) (As := [.int (nI xc), .int (nI xr), .int 3]) (rest := []) rfl hl.1 rfl (Nat.le_of_ble_eq_true rfl) dL_leaps_13 ⟨Nat.le_of_ble_eq_true rfl, Nat.le_of_ble_eq_true rfl⟩ (fun r_13 u_13 H locs hq hP hD hS => ?_)
      obtain ⟨hrv, hJ⟩ := hq
      subst hrv
      refine top_i (y := (nI m9)) em ?_
      refine lv_istore (lv' := [(5, .int (nI m9)), (0, .ref xo), (1, .int (nI xc)), (2, .int (nI xr)), (3, .int 1), (4, .int (nI ru))]) hx hb dL_leaps_16 hl (by decide) rfl (fun ls hl => ?_)
      refine lv_aload_n hx hb dL_leaps_18 rfl (lv_at hl 1 rfl) ?_
      refine lv_iload_n hx hb dL_leaps_19 rfl (lv_at hl 2 rfl) ?_
      refine lv_iload_n hx hb dL_leaps_20 rfl (lv_at hl 3 rfl) ?_
      refine lv_iload_n hx hb dL_leaps_21 rfl (lv_at hl 4 rfl) ?_
      refine lv_iload hx hb dL_leaps_22 (lv_at hl 5 rfl) ?_
      refine lv_iconst (v := 0) hx hb dL_leaps_24 (by decide) ?_
      refine cB_i hJ.hd CF hK hN hA hS hP hD (b_ifLeapt l D cI cZ cW cJ A X xo S u_13 xc xr 1 ru 0 (by omega) (by omega) (by decide) (by omega) (by decide) hJ) (cwV 5 hts gL_leaps_X8_ifLeapt rfl rfl rfl (by decide +kernel) ⟨Nat.le_of_ble_eq_true rfl, Nat.le_of_ble_eq_true rfl⟩) (As := [.int (nI xc), .int (nI xr), .int 1, .int (nI ru), .int 0]) (rest := []) rfl hl.1 rfl (Nat.le_of_ble_eq_true rfl) dL_leaps_25 ⟨Nat.le_of_ble_eq_true rfl, Nat.le_of_ble_eq_true rfl⟩ (fun r_25 u_25 H locs hq hP hD hS => ?_)
      obtain ⟨hrv, hJ⟩ := hq
      subst hrv
      refine top_i (y := (-1)) (hno 0) ?_
      refine lv_istore (lv' := [(6, .int (-1)), (5, .int (nI m9)), (0, .ref xo), (1, .int (nI xc)), (2, .int (nI xr)), (3, .int 1), (4, .int (nI ru))]) hx hb dL_leaps_28 hl (by decide) rfl (fun ls hl => ?_)
      refine lv_iload hx hb dL_leaps_30 (lv_at hl 6 rfl) ?_
      refine lv_iload hx hb dL_leaps_32 (lv_at hl 1 rfl) ?_
      have c_34 : ¬ ((nI ru) : Int32) ≤ (nI m9) := nI_len (by omega) (by omega) q9
      refine lv_icmp_le (tgt := 63) hx hb dL_leaps_34 (by decide) (fun q => absurd q c_34) (fun _ => ?_)
      refine lv_iload hx hb dL_leaps_37 (lv_at hl 0 rfl) ?_
      refine lv_iconst (v := (-1)) hx hb dL_leaps_39 (by decide) ?_
      have c_40 : ((-1) : Int32) = (-1) := rfl
      refine lv_icmp_ne (tgt := 61) hx hb dL_leaps_40 (by decide) (fun q => absurd c_40 q) (fun _ => ?_)
      refine lv_aload_n hx hb dL_leaps_43 rfl (lv_at hl 2 rfl) ?_
      refine lv_iload_n hx hb dL_leaps_44 rfl (lv_at hl 3 rfl) ?_
      refine lv_iload_n hx hb dL_leaps_45 rfl (lv_at hl 4 rfl) ?_
      refine lv_iload_n hx hb dL_leaps_46 rfl (lv_at hl 5 rfl) ?_
      refine lv_iload hx hb dL_leaps_47 (lv_at hl 6 rfl) ?_
      refine lv_iconst (v := 2) hx hb dL_leaps_49 (by decide) ?_
      refine cB_i hJ.hd CF hK hN hA hS hP hD (b_ifLeapt l D cI cZ cW cJ A X xo S u_25 xc xr 1 ru 2 (by omega) (by omega) (by decide) (by omega) (by decide) hJ) (cwV 5 hts gL_leaps_X8_ifLeapt rfl rfl rfl (by decide +kernel) ⟨Nat.le_of_ble_eq_true rfl, Nat.le_of_ble_eq_true rfl⟩) (As := [.int (nI xc), .int (nI xr), .int 1, .int (nI ru), .int 2]) (rest := []) rfl hl.1 rfl (Nat.le_of_ble_eq_true rfl) dL_leaps_50 ⟨Nat.le_of_ble_eq_true rfl, Nat.le_of_ble_eq_true rfl⟩ (fun r_50 u_50 H locs hq hP hD hS => ?_)
      obtain ⟨hrv, hJ⟩ := hq
      subst hrv
      refine top_i (y := (-1)) (hno 2) ?_
      refine lv_iconst (v := (-1)) hx hb dL_leaps_53 (by decide) ?_
      have c_54 : ((-1) : Int32) = (-1) := rfl
      refine lv_icmp_ne (tgt := 61) hx hb dL_leaps_54 (by decide) (fun q => absurd c_54 q) (fun _ => ?_)
      refine lv_iconst (v := 1) hx hb dL_leaps_57 (by decide) ?_
      refine lv_goto (tgt := 62) hx hb dL_leaps_58 (by decide) ?_
      exact W.zret (v := 1) (ty := .boolean) hx hb hr (rfl) (fun t9 ht9 hW9 => ⟨⟨1, u_50, rfl, ⟨rfl, hJ⟩, by rw [ht9]; exact hP, hD⟩, hS.F ht9⟩) hS.2.2 dL_leaps_62
    · have hdist : tc = xc + k9 := by
        rcases hdd with ⟨h1, h2⟩ | ⟨h1, h2⟩
        · exact h2
        · exact absurd h1 (by decide)
      obtain ⟨ow, eow⟩ : ∃ z, lgN (SB (Bk S.1)) (20 * xr + xc) = z := ⟨_, rfl⟩
      obtain ⟨it, eit⟩ : ∃ z, lgN (SB (Bk S.1)) (20 * tr + tc) = z := ⟨_, rfl⟩
      rw [eow, eit] at hEv
      have how : cellS S xc xr 2 = nI ow := by rw [← eow]; exact (cell_st hc hst).2
      have hit : cellS S tc tr 2 = nI it := by rw [← eit]; exact (cell_st htc hs9).2
      have hs1 : cellS S tc tr 1 = 1 := (cell_st htc hs9).1
      have hol : ow < nS S := by rw [← eow]; exact own_S hc hr9 hst
      have hil : it < nS S := by rw [← eit]; exact own_S htc htr hs9
      have hb9 : (ru + 1) * tt ≤ 4 * 100 := Nat.mul_le_mul (by omega) (by omega)
      obtain ⟨sl, hsl, esl, hsl2⟩ : ∃ sl, sl ≤ ru ∧ slowS S ow it = nI sl ∧ sl ≤ 3 := by
        rcases slow_spec S ow it with ⟨-, h2⟩ | ⟨sl, h1, h2, h3, h4⟩
        · exact absurd hEv (h2 ru)
        · exact ⟨sl, h4 ru hEv, h2, h1⟩
      refine lv_iconst (v := 1) hx hb dL_leaps_4 (by decide) ?_
      have c_5 : (1 : Int32) = 1 := rfl
      refine lv_icmp_ne (tgt := 12) hx hb dL_leaps_5 (by decide) (fun q => absurd c_5 q) (fun _ => ?_)
      refine lv_iconst (v := 3) hx hb dL_leaps_8 (by decide) ?_
      refine lv_goto (tgt := 13) hx hb dL_leaps_9 (by decide) ?_
      refine cB_i hJ.hd CF hK hN hA hS hP hD (b_cellOf l D cI cZ cW cJ A X xo S XB xc xr 3 (by omega) (by omega) (by decide) hJ) (cwV 3 hts gL_leaps_X8_cellOf rfl rfl rfl (by decide +kernel) ⟨Nat.le_of_ble_eq_true rfl, Nat.le_of_ble_eq_true rfl⟩) (As := [.int (nI xc), .int (nI xr), .int 3]) (rest := []) rfl hl.1 rfl (Nat.le_of_ble_eq_true rfl) dL_leaps_13 ⟨Nat.le_of_ble_eq_true rfl, Nat.le_of_ble_eq_true rfl⟩ (fun r_13 u_13 H locs hq hP hD hS => ?_)
      obtain ⟨hrv, hJ⟩ := hq
      subst hrv
      refine top_i (y := (nI m9)) em ?_
      refine lv_istore (lv' := [(5, .int (nI m9)), (0, .ref xo), (1, .int (nI xc)), (2, .int (nI xr)), (3, .int 1), (4, .int (nI ru))]) hx hb dL_leaps_16 hl (by decide) rfl (fun ls hl => ?_)
      refine lv_aload_n hx hb dL_leaps_18 rfl (lv_at hl 1 rfl) ?_
      refine lv_iload_n hx hb dL_leaps_19 rfl (lv_at hl 2 rfl) ?_
      refine lv_iload_n hx hb dL_leaps_20 rfl (lv_at hl 3 rfl) ?_
      refine lv_iload_n hx hb dL_leaps_21 rfl (lv_at hl 4 rfl) ?_
      refine lv_iload hx hb dL_leaps_22 (lv_at hl 5 rfl) ?_
      refine lv_iconst (v := 0) hx hb dL_leaps_24 (by decide) ?_
      refine cB_i hJ.hd CF hK hN hA hS hP hD (b_ifLeapt l D cI cZ cW cJ A X xo S u_13 xc xr 1 ru 0 (by omega) (by omega) (by decide) (by omega) (by decide) hJ) (cwV 5 hts gL_leaps_X8_ifLeapt rfl rfl rfl (by decide +kernel) ⟨Nat.le_of_ble_eq_true rfl, Nat.le_of_ble_eq_true rfl⟩) (As := [.int (nI xc), .int (nI xr), .int 1, .int (nI ru), .int 0]) (rest := []) rfl hl.1 rfl (Nat.le_of_ble_eq_true rfl) dL_leaps_25 ⟨Nat.le_of_ble_eq_true rfl, Nat.le_of_ble_eq_true rfl⟩ (fun r_25 u_25 H locs hq hP hD hS => ?_)
      obtain ⟨hrv, hJ⟩ := hq
      subst hrv
      refine top_i (y := (nI tc)) e0 ?_
      refine lv_istore (lv' := [(6, .int (nI tc)), (5, .int (nI m9)), (0, .ref xo), (1, .int (nI xc)), (2, .int (nI xr)), (3, .int 1), (4, .int (nI ru))]) hx hb dL_leaps_28 hl (by decide) rfl (fun ls hl => ?_)
      refine lv_iload hx hb dL_leaps_30 (lv_at hl 6 rfl) ?_
      refine lv_iload hx hb dL_leaps_32 (lv_at hl 1 rfl) ?_
      have c_34 : ((nI ru) : Int32) ≤ (nI m9) := nI_let (by omega) (by omega) q9
      refine lv_icmp_le (tgt := 63) hx hb dL_leaps_34 (by decide) (fun _ => ?_) (fun q => absurd c_34 q)
      refine lv_aload_n hx hb dL_leaps_63 rfl (lv_at hl 2 rfl) ?_
      refine lv_iload_n hx hb dL_leaps_64 rfl (lv_at hl 3 rfl) ?_
      refine lv_iload_n hx hb dL_leaps_65 rfl (lv_at hl 4 rfl) ?_
      refine lv_iload_n hx hb dL_leaps_66 rfl (lv_at hl 5 rfl) ?_
      refine lv_iload hx hb dL_leaps_67 (lv_at hl 6 rfl) ?_
      refine lv_iconst (v := 1) hx hb dL_leaps_69 (by decide) ?_
      refine cB_i hJ.hd CF hK hN hA hS hP hD (b_ifLeapt l D cI cZ cW cJ A X xo S u_25 xc xr 1 ru 1 (by omega) (by omega) (by decide) (by omega) (by decide) hJ) (cwV 5 hts gL_leaps_X8_ifLeapt rfl rfl rfl (by decide +kernel) ⟨Nat.le_of_ble_eq_true rfl, Nat.le_of_ble_eq_true rfl⟩) (As := [.int (nI xc), .int (nI xr), .int 1, .int (nI ru), .int 1]) (rest := []) rfl hl.1 rfl (Nat.le_of_ble_eq_true rfl) dL_leaps_70 ⟨Nat.le_of_ble_eq_true rfl, Nat.le_of_ble_eq_true rfl⟩ (fun r_70 u_70 H locs hq hP hD hS => ?_)
      obtain ⟨hrv, hJ⟩ := hq
      subst hrv
      refine top_i (y := (nI tr)) e1 ?_
      refine lv_istore (lv' := [(7, .int (nI tr)), (6, .int (nI tc)), (5, .int (nI m9)), (0, .ref xo), (1, .int (nI xc)), (2, .int (nI xr)), (3, .int 1), (4, .int (nI ru))]) hx hb dL_leaps_73 hl (by decide) rfl (fun ls hl => ?_)
      refine lv_aload_n hx hb dL_leaps_75 rfl (lv_at hl 3 rfl) ?_
      refine lv_iload_n hx hb dL_leaps_76 rfl (lv_at hl 4 rfl) ?_
      refine lv_iload_n hx hb dL_leaps_77 rfl (lv_at hl 5 rfl) ?_
      refine lv_iload_n hx hb dL_leaps_78 rfl (lv_at hl 6 rfl) ?_
      refine lv_iload hx hb dL_leaps_79 (lv_at hl 7 rfl) ?_
      refine lv_iconst (v := 3) hx hb dL_leaps_81 (by decide) ?_
      refine cB_i hJ.hd CF hK hN hA hS hP hD (b_ifLeapt l D cI cZ cW cJ A X xo S u_70 xc xr 1 ru 3 (by omega) (by omega) (by decide) (by omega) (by decide) hJ) (cwV 5 hts gL_leaps_X8_ifLeapt rfl rfl rfl (by decide +kernel) ⟨Nat.le_of_ble_eq_true rfl, Nat.le_of_ble_eq_true rfl⟩) (As := [.int (nI xc), .int (nI xr), .int 1, .int (nI ru), .int 3]) (rest := []) rfl hl.1 rfl (Nat.le_of_ble_eq_true rfl) dL_leaps_82 ⟨Nat.le_of_ble_eq_true rfl, Nat.le_of_ble_eq_true rfl⟩ (fun r_82 u_82 H locs hq hP hD hS => ?_)
      obtain ⟨hrv, hJ⟩ := hq
      subst hrv
      refine top_i (y := (nI tp)) e3 ?_
      refine lv_istore (lv' := [(8, .int (nI tp)), (7, .int (nI tr)), (6, .int (nI tc)), (5, .int (nI m9)), (0, .ref xo), (1, .int (nI xc)), (2, .int (nI xr)), (3, .int 1), (4, .int (nI ru))]) hx hb dL_leaps_85 hl (by decide) rfl (fun ls hl => ?_)
      refine lv_aload_n hx hb dL_leaps_87 rfl (lv_at hl 4 rfl) ?_
      refine lv_iload_n hx hb dL_leaps_88 rfl (lv_at hl 5 rfl) ?_
      refine lv_iload_n hx hb dL_leaps_89 rfl (lv_at hl 6 rfl) ?_
      refine lv_iload_n hx hb dL_leaps_90 rfl (lv_at hl 7 rfl) ?_
      refine lv_iload hx hb dL_leaps_91 (lv_at hl 8 rfl) ?_
      refine lv_iconst (v := 4) hx hb dL_leaps_93 (by decide) ?_
      refine cB_i hJ.hd CF hK hN hA hS hP hD (b_ifLeapt l D cI cZ cW cJ A X xo S u_82 xc xr 1 ru 4 (by omega) (by omega) (by decide) (by omega) (by decide) hJ) (cwV 5 hts gL_leaps_X8_ifLeapt rfl rfl rfl (by decide +kernel) ⟨Nat.le_of_ble_eq_true rfl, Nat.le_of_ble_eq_true rfl⟩) (As := [.int (nI xc), .int (nI xr), .int 1, .int (nI ru), .int 4]) (rest := []) rfl hl.1 rfl (Nat.le_of_ble_eq_true rfl) dL_leaps_94 ⟨Nat.le_of_ble_eq_true rfl, Nat.le_of_ble_eq_true rfl⟩ (fun r_94 u_94 H locs hq hP hD hS => ?_)
      obtain ⟨hrv, hJ⟩ := hq
      subst hrv
      refine top_i (y := (bI wb)) e4 ?_
      refine lv_istore (lv' := [(9, .int (bI wb)), (8, .int (nI tp)), (7, .int (nI tr)), (6, .int (nI tc)), (5, .int (nI m9)), (0, .ref xo), (1, .int (nI xc)), (2, .int (nI xr)), (3, .int 1), (4, .int (nI ru))]) hx hb dL_leaps_97 hl (by decide) rfl (fun ls hl => ?_)
      refine lv_aload_n hx hb dL_leaps_99 rfl (lv_at hl 5 rfl) ?_
      refine lv_iload_n hx hb dL_leaps_100 rfl (lv_at hl 6 rfl) ?_
      refine lv_iload_n hx hb dL_leaps_101 rfl (lv_at hl 7 rfl) ?_
      refine lv_iload_n hx hb dL_leaps_102 rfl (lv_at hl 8 rfl) ?_
      refine lv_iload hx hb dL_leaps_103 (lv_at hl 9 rfl) ?_
      refine lv_iconst (v := 2) hx hb dL_leaps_105 (by decide) ?_
      refine cB_i hJ.hd CF hK hN hA hS hP hD (b_ifLeapt l D cI cZ cW cJ A X xo S u_94 xc xr 1 ru 2 (by omega) (by omega) (by decide) (by omega) (by decide) hJ) (cwV 5 hts gL_leaps_X8_ifLeapt rfl rfl rfl (by decide +kernel) ⟨Nat.le_of_ble_eq_true rfl, Nat.le_of_ble_eq_true rfl⟩) (As := [.int (nI xc), .int (nI xr), .int 1, .int (nI ru), .int 2]) (rest := []) rfl hl.1 rfl (Nat.le_of_ble_eq_true rfl) dL_leaps_106 ⟨Nat.le_of_ble_eq_true rfl, Nat.le_of_ble_eq_true rfl⟩ (fun r_106 u_106 H locs hq hP hD hS => ?_)
      obtain ⟨hrv, hJ⟩ := hq
      subst hrv
      refine top_i (y := (nI tt)) e2 ?_
      refine lv_istore (lv' := [(10, .int (nI tt)), (9, .int (bI wb)), (8, .int (nI tp)), (7, .int (nI tr)), (6, .int (nI tc)), (5, .int (nI m9)), (0, .ref xo), (1, .int (nI xc)), (2, .int (nI xr)), (3, .int 1), (4, .int (nI ru))]) hx hb dL_leaps_109 hl (by decide) rfl (fun ls hl => ?_)
      refine lv_aload_n hx hb dL_leaps_111 rfl (lv_at hl 6 rfl) ?_
      refine lv_iload_n hx hb dL_leaps_112 rfl (lv_at hl 7 rfl) ?_
      refine lv_iload_n hx hb dL_leaps_113 rfl (lv_at hl 8 rfl) ?_
      refine lv_iconst (v := 2) hx hb dL_leaps_114 (by decide) ?_
      refine cB_i hJ.hd CF hK hN hA hS hP hD (b_cellOf l D cI cZ cW cJ A X xo S u_106 xc xr 2 (by omega) (by omega) (by decide) hJ) (cwV 3 hts gL_leaps_X8_cellOf rfl rfl rfl (by decide +kernel) ⟨Nat.le_of_ble_eq_true rfl, Nat.le_of_ble_eq_true rfl⟩) (As := [.int (nI xc), .int (nI xr), .int 2]) (rest := []) rfl hl.1 rfl (Nat.le_of_ble_eq_true rfl) dL_leaps_115 ⟨Nat.le_of_ble_eq_true rfl, Nat.le_of_ble_eq_true rfl⟩ (fun r_115 u_115 H locs hq hP hD hS => ?_)
      obtain ⟨hrv, hJ⟩ := hq
      subst hrv
      refine top_i (y := (nI ow)) how ?_
      refine lv_istore (lv' := [(11, .int (nI ow)), (10, .int (nI tt)), (9, .int (bI wb)), (8, .int (nI tp)), (7, .int (nI tr)), (6, .int (nI tc)), (5, .int (nI m9)), (0, .ref xo), (1, .int (nI xc)), (2, .int (nI xr)), (3, .int 1), (4, .int (nI ru))]) hx hb dL_leaps_118 hl (by decide) rfl (fun ls hl => ?_)
      refine lv_aload_n hx hb dL_leaps_120 rfl (lv_at hl 7 rfl) ?_
      refine lv_iload hx hb dL_leaps_121 (lv_at hl 5 rfl) ?_
      refine lv_iload hx hb dL_leaps_123 (lv_at hl 4 rfl) ?_
      refine lv_iconst (v := 2) hx hb dL_leaps_125 (by decide) ?_
      refine cB_i hJ.hd CF hK hN hA hS hP hD (b_cellOf l D cI cZ cW cJ A X xo S u_115 tc tr 2 (by omega) (by omega) (by decide) hJ) (cwV 3 hts gL_leaps_X8_cellOf rfl rfl rfl (by decide +kernel) ⟨Nat.le_of_ble_eq_true rfl, Nat.le_of_ble_eq_true rfl⟩) (As := [.int (nI tc), .int (nI tr), .int 2]) (rest := []) rfl hl.1 rfl (Nat.le_of_ble_eq_true rfl) dL_leaps_126 ⟨Nat.le_of_ble_eq_true rfl, Nat.le_of_ble_eq_true rfl⟩ (fun r_126 u_126 H locs hq hP hD hS => ?_)
      obtain ⟨hrv, hJ⟩ := hq
      subst hrv
      refine top_i (y := (nI it)) hit ?_
      refine lv_istore (lv' := [(12, .int (nI it)), (11, .int (nI ow)), (10, .int (nI tt)), (9, .int (bI wb)), (8, .int (nI tp)), (7, .int (nI tr)), (6, .int (nI tc)), (5, .int (nI m9)), (0, .ref xo), (1, .int (nI xc)), (2, .int (nI xr)), (3, .int 1), (4, .int (nI ru))]) hx hb dL_leaps_129 hl (by decide) rfl (fun ls hl => ?_)
      refine lv_aload_n hx hb dL_leaps_131 rfl (lv_at hl 8 rfl) ?_
      refine lv_iload hx hb dL_leaps_132 (lv_at hl 1 rfl) ?_
      refine lv_iload hx hb dL_leaps_134 (lv_at hl 0 rfl) ?_
      refine cB_i hJ.hd CF hK hN hA hS hP hD (b_slowest l D cI cZ cW cJ A X xo S u_126 ow it (by omega) (by omega) hJ) (cwV 2 hts gL_leaps_X8_slowest rfl rfl rfl (by decide +kernel) ⟨Nat.le_of_ble_eq_true rfl, Nat.le_of_ble_eq_true rfl⟩) (As := [.int (nI ow), .int (nI it)]) (rest := []) rfl hl.1 rfl (Nat.le_of_ble_eq_true rfl) dL_leaps_136 ⟨Nat.le_of_ble_eq_true rfl, Nat.le_of_ble_eq_true rfl⟩ (fun r_136 u_136 H locs hq hP hD hS => ?_)
      obtain ⟨hrv, hJ⟩ := hq
      subst hrv
      refine top_i (y := (nI sl)) esl ?_
      refine lv_istore (lv' := [(13, .int (nI sl)), (12, .int (nI it)), (11, .int (nI ow)), (10, .int (nI tt)), (9, .int (bI wb)), (8, .int (nI tp)), (7, .int (nI tr)), (6, .int (nI tc)), (5, .int (nI m9)), (0, .ref xo), (1, .int (nI xc)), (2, .int (nI xr)), (3, .int 1), (4, .int (nI ru))]) hx hb dL_leaps_139 hl (by decide) rfl (fun ls hl => ?_)
      refine lv_iload hx hb dL_leaps_141 (lv_at hl 7 rfl) ?_
      have c_143 : ¬ ((nI tc) : Int32) < 0 := nI_pos (by omega)
      refine lv_if_lt (tgt := 290) hx hb dL_leaps_143 (by decide) (fun q => absurd q c_143) (fun _ => ?_)
      refine lv_aload_n hx hb dL_leaps_146 rfl (lv_at hl 9 rfl) ?_
      refine lv_iload hx hb dL_leaps_147 (lv_at hl 7 rfl) ?_
      refine lv_iload hx hb dL_leaps_149 (lv_at hl 6 rfl) ?_
      refine lv_iconst (v := 1) hx hb dL_leaps_151 (by decide) ?_
      refine cB_i hJ.hd CF hK hN hA hS hP hD (b_cellOf l D cI cZ cW cJ A X xo S u_136 tc tr 1 (by omega) (by omega) (by decide) hJ) (cwV 3 hts gL_leaps_X8_cellOf rfl rfl rfl (by decide +kernel) ⟨Nat.le_of_ble_eq_true rfl, Nat.le_of_ble_eq_true rfl⟩) (As := [.int (nI tc), .int (nI tr), .int 1]) (rest := []) rfl hl.1 rfl (Nat.le_of_ble_eq_true rfl) dL_leaps_152 ⟨Nat.le_of_ble_eq_true rfl, Nat.le_of_ble_eq_true rfl⟩ (fun r_152 u_152 H locs hq hP hD hS => ?_)
      obtain ⟨hrv, hJ⟩ := hq
      subst hrv
      refine top_i (y := 1) hs1 ?_
      refine lv_iconst (v := 1) hx hb dL_leaps_155 (by decide) ?_
      have c_156 : (1 : Int32) = 1 := rfl
      refine lv_icmp_ne (tgt := 290) hx hb dL_leaps_156 (by decide) (fun q => absurd c_156 q) (fun _ => ?_)
      refine lv_iload hx hb dL_leaps_159 (lv_at hl 5 rfl) ?_
      refine lv_iload_n hx hb dL_leaps_161 rfl (lv_at hl 11 rfl) ?_
      have c_162 : ¬ ((nI tp) : Int32) < (nI xr) := nI_lt0 (by omega) (by omega) (by omega)
      refine lv_icmp_lt (tgt := 290) hx hb dL_leaps_162 (by decide) (fun q => absurd q c_162) (fun _ => ?_)
      refine lv_iload hx hb dL_leaps_165 (lv_at hl 5 rfl) ?_
      refine lv_iload hx hb dL_leaps_167 (lv_at hl 6 rfl) ?_
      have c_169 : ¬ ((nI tp) : Int32) < (nI tr) := nI_lt0 (by omega) (by omega) (by omega)
      refine lv_icmp_lt (tgt := 290) hx hb dL_leaps_169 (by decide) (fun q => absurd q c_169) (fun _ => ?_)
      refine lv_iload hx hb dL_leaps_172 (lv_at hl 5 rfl) ?_
      refine lv_bipush (v := 9) hx hb dL_leaps_174 (by decide) ?_
      have c_176 : ¬ (9 : Int32) < (nI tp) := nI_lt0 (a := 9) (b := tp) (by decide) (by omega) (by omega)
      refine lv_icmp_gt (tgt := 290) hx hb dL_leaps_176 (by decide) (fun q => absurd q c_176) (fun _ => ?_)
      refine lv_iload hx hb dL_leaps_179 (lv_at hl 3 rfl) ?_
      refine lv_iconst (v := 1) hx hb dL_leaps_181 (by decide) ?_
      have c_182 : ¬ ((nI tt) : Int32) ≤ 1 := nI_len (a := tt) (b := 1) (by omega) (by decide) (by omega)
      refine lv_icmp_le (tgt := 290) hx hb dL_leaps_182 (by decide) (fun q => absurd q c_182) (fun _ => ?_)
      refine lv_iload_n hx hb dL_leaps_185 rfl (lv_at hl 12 rfl) ?_
      refine lv_iconst (v := 1) hx hb dL_leaps_186 (by decide) ?_
      have c_187 : (1 : Int32) = 1 := rfl
      refine lv_icmp_ne (tgt := 199) hx hb dL_leaps_187 (by decide) (fun q => absurd c_187 q) (fun _ => ?_)
      refine lv_iload hx hb dL_leaps_190 (lv_at hl 7 rfl) ?_
      refine lv_iload_n hx hb dL_leaps_192 rfl (lv_at hl 10 rfl) ?_
      have c_193 : ¬ ((nI tc) : Int32) < (nI xc) := nI_lt0 (by omega) (by omega) (by omega)
      refine lv_icmp_lt (tgt := 290) hx hb dL_leaps_193 (by decide) (fun q => absurd q c_193) (fun _ => ?_)
      refine lv_goto (tgt := 205) hx hb dL_leaps_196 (by decide) ?_
      refine lv_iload hx hb dL_leaps_205 (lv_at hl 7 rfl) ?_
      refine lv_iload_n hx hb dL_leaps_207 rfl (lv_at hl 10 rfl) ?_
      refine lv_isub hx hb dL_leaps_208 ?_
      refine lv_iload_n hx hb dL_leaps_209 rfl (lv_at hl 12 rfl) ?_
      refine lv_imul hx hb dL_leaps_210 ?_
      refine top_i (y := (nI k9)) (dist1 hdist) ?_
      refine lv_iload hx hb dL_leaps_211 (lv_at hl 13 rfl) ?_
      refine lv_iconst (v := 1) hx hb dL_leaps_213 (by decide) ?_
      refine lv_iadd hx hb dL_leaps_214 ?_
      refine top_i (y := (nI (ru + 1))) (nI_add ru 1) ?_
      refine lv_iload hx hb dL_leaps_215 (lv_at hl 3 rfl) ?_
      refine lv_imul hx hb dL_leaps_217 ?_
      refine top_i (y := (nI ((ru + 1) * tt))) (pk_mul (ru + 1) tt) ?_
      have c_218 : ¬ ((nI ((ru + 1) * tt)) : Int32) < (nI k9) := nI_lt0 (by omega) (by omega) hkk
      refine lv_icmp_gt (tgt := 290) hx hb dL_leaps_218 (by decide) (fun q => absurd q c_218) (fun _ => ?_)
      rcases wb with _ | _
      · skip
        refine lv_iload hx hb dL_leaps_221 (lv_at hl 4 rfl) ?_
        refine top_i (y := 0) rfl ?_
        refine lv_iconst (v := 1) hx hb dL_leaps_223 (by decide) ?_
        have c_224 : ¬ (0 : Int32) = 1 := by decide
        refine lv_icmp_eq (tgt := 243) hx hb dL_leaps_224 (by decide) (fun q => absurd q c_224) (fun _ => ?_)
        refine lv_iload hx hb dL_leaps_227 (lv_at hl 7 rfl) ?_
        refine lv_iload_n hx hb dL_leaps_229 rfl (lv_at hl 10 rfl) ?_
        refine lv_isub hx hb dL_leaps_230 ?_
        refine lv_iload_n hx hb dL_leaps_231 rfl (lv_at hl 12 rfl) ?_
        refine lv_imul hx hb dL_leaps_232 ?_
        refine top_i (y := (nI k9)) (dist1 hdist) ?_
        refine lv_iload hx hb dL_leaps_233 (lv_at hl 13 rfl) ?_
        refine lv_iconst (v := 1) hx hb dL_leaps_235 (by decide) ?_
        refine lv_iadd hx hb dL_leaps_236 ?_
        refine top_i (y := (nI (ru + 1))) (nI_add ru 1) ?_
        refine lv_iload hx hb dL_leaps_237 (lv_at hl 3 rfl) ?_
        refine lv_imul hx hb dL_leaps_239 ?_
        refine top_i (y := (nI ((ru + 1) * tt))) (pk_mul (ru + 1) tt) ?_
        have c_240 : ((nI k9) : Int32) = (nI ((ru + 1) * tt)) := congrArg nI (hww rfl)
        refine lv_icmp_ne (tgt := 290) hx hb dL_leaps_240 (by decide) (fun q => absurd c_240 q) (fun _ => ?_)
        refine lv_iload hx hb dL_leaps_243 (lv_at hl 1 rfl) ?_
        have c_245 : ¬ ((nI it) : Int32) < 0 := nI_pos (by omega)
        refine lv_if_lt (tgt := 290) hx hb dL_leaps_245 (by decide) (fun q => absurd q c_245) (fun _ => ?_)
        refine lv_iload hx hb dL_leaps_248 (lv_at hl 0 rfl) ?_
        have c_250 : ¬ ((nI sl) : Int32) < 0 := nI_pos (by omega)
        refine lv_if_lt (tgt := 290) hx hb dL_leaps_250 (by decide) (fun q => absurd q c_250) (fun _ => ?_)
        refine lv_iload hx hb dL_leaps_253 (lv_at hl 0 rfl) ?_
        refine lv_iload hx hb dL_leaps_255 (lv_at hl 13 rfl) ?_
        have c_257 : ¬ ((nI ru) : Int32) < (nI sl) := nI_lt0 (by omega) (by omega) hsl
        refine lv_icmp_gt (tgt := 290) hx hb dL_leaps_257 (by decide) (fun q => absurd q c_257) (fun _ => ?_)
        by_cases hoi : ow = it
        · subst hoi
          refine lv_aload_n hx hb dL_leaps_260 rfl (lv_at hl 9 rfl) ?_
          refine lv_iload hx hb dL_leaps_261 (lv_at hl 2 rfl) ?_
          refine lv_iload hx hb dL_leaps_263 (lv_at hl 1 rfl) ?_
          refine lv_iload hx hb dL_leaps_265 (lv_at hl 13 rfl) ?_
          refine lv_iconst (v := 0) hx hb dL_leaps_267 (by decide) ?_
          refine cB_i hJ.hd CF hK hN hA hS hP hD (b_fewest l D cI cZ cW cJ A X xo S u_152 ow ow ru 0 (by omega) (by omega) (by omega) (by decide) hJ) (cwV 4 hts gL_leaps_X8_fewest rfl rfl rfl (by decide +kernel) ⟨Nat.le_of_ble_eq_true rfl, Nat.le_of_ble_eq_true rfl⟩) (As := [.int (nI ow), .int (nI ow), .int (nI ru), .int 0]) (rest := []) rfl hl.1 rfl (Nat.le_of_ble_eq_true rfl) dL_leaps_268 ⟨Nat.le_of_ble_eq_true rfl, Nat.le_of_ble_eq_true rfl⟩ (fun r_268 u_268 H locs hq hP hD hS => ?_)
          obtain ⟨hrv, hJ⟩ := hq
          subst hrv
          refine top_i (y := 0) d_self ?_
          refine lv_iload hx hb dL_leaps_271 (lv_at hl 2 rfl) ?_
          refine lv_iload hx hb dL_leaps_273 (lv_at hl 1 rfl) ?_
          have c_275 : ((nI ow) : Int32) = (nI ow) := rfl
          refine lv_icmp_ne (tgt := 282) hx hb dL_leaps_275 (by decide) (fun q => absurd c_275 q) (fun _ => ?_)
          refine lv_iconst (v := 0) hx hb dL_leaps_278 (by decide) ?_
          refine lv_goto (tgt := 283) hx hb dL_leaps_279 (by decide) ?_
          have c_283 : (0 : Int32) = 0 := rfl
          refine lv_icmp_ne (tgt := 290) hx hb dL_leaps_283 (by decide) (fun q => absurd c_283 q) (fun _ => ?_)
          refine lv_iconst (v := 1) hx hb dL_leaps_286 (by decide) ?_
          refine lv_goto (tgt := 291) hx hb dL_leaps_287 (by decide) ?_
          exact W.zret (v := 1) (ty := .boolean) hx hb hr (rfl) (fun t9 ht9 hW9 => ⟨⟨1, u_268, rfl, ⟨rfl, hJ⟩, by rw [ht9]; exact hP, hD⟩, hS.F ht9⟩) hS.2.2 dL_leaps_291
        · skip
          refine lv_aload_n hx hb dL_leaps_260 rfl (lv_at hl 9 rfl) ?_
          refine lv_iload hx hb dL_leaps_261 (lv_at hl 2 rfl) ?_
          refine lv_iload hx hb dL_leaps_263 (lv_at hl 1 rfl) ?_
          refine lv_iload hx hb dL_leaps_265 (lv_at hl 13 rfl) ?_
          refine lv_iconst (v := 0) hx hb dL_leaps_267 (by decide) ?_
          refine cB_i hJ.hd CF hK hN hA hS hP hD (b_fewest l D cI cZ cW cJ A X xo S u_152 ow it ru 0 (by omega) (by omega) (by omega) (by decide) hJ) (cwV 4 hts gL_leaps_X8_fewest rfl rfl rfl (by decide +kernel) ⟨Nat.le_of_ble_eq_true rfl, Nat.le_of_ble_eq_true rfl⟩) (As := [.int (nI ow), .int (nI it), .int (nI ru), .int 0]) (rest := []) rfl hl.1 rfl (Nat.le_of_ble_eq_true rfl) dL_leaps_268 ⟨Nat.le_of_ble_eq_true rfl, Nat.le_of_ble_eq_true rfl⟩ (fun r_268 u_268 H locs hq hP hD hS => ?_)
          obtain ⟨hrv, hJ⟩ := hq
          subst hrv
          refine top_i (y := 1) (d_one hol hoi (RS_iff.mpr ⟨ru, Nat.le_refl _, hEv⟩)) ?_
          refine lv_iload hx hb dL_leaps_271 (lv_at hl 2 rfl) ?_
          refine lv_iload hx hb dL_leaps_273 (lv_at hl 1 rfl) ?_
          have c_275 : ¬ ((nI ow) : Int32) = (nI it) := nI_nee (by omega) (by omega) hoi
          refine lv_icmp_ne (tgt := 282) hx hb dL_leaps_275 (by decide) (fun _ => ?_) (fun q => absurd q c_275)
          refine lv_iconst (v := 1) hx hb dL_leaps_282 (by decide) ?_
          have c_283 : (1 : Int32) = 1 := rfl
          refine lv_icmp_ne (tgt := 290) hx hb dL_leaps_283 (by decide) (fun q => absurd c_283 q) (fun _ => ?_)
          refine lv_iconst (v := 1) hx hb dL_leaps_286 (by decide) ?_
          refine lv_goto (tgt := 291) hx hb dL_leaps_287 (by decide) ?_
          exact W.zret (v := 1) (ty := .boolean) hx hb hr (rfl) (fun t9 ht9 hW9 => ⟨⟨1, u_268, rfl, ⟨rfl, hJ⟩, by rw [ht9]; exact hP, hD⟩, hS.F ht9⟩) hS.2.2 dL_leaps_291
      · skip
        refine lv_iload hx hb dL_leaps_221 (lv_at hl 4 rfl) ?_
        refine top_i (y := 1) rfl ?_
        refine lv_iconst (v := 1) hx hb dL_leaps_223 (by decide) ?_
        have c_224 : (1 : Int32) = 1 := rfl
        refine lv_icmp_eq (tgt := 243) hx hb dL_leaps_224 (by decide) (fun _ => ?_) (fun q => absurd c_224 q)
        refine lv_iload hx hb dL_leaps_243 (lv_at hl 1 rfl) ?_
        have c_245 : ¬ ((nI it) : Int32) < 0 := nI_pos (by omega)
        refine lv_if_lt (tgt := 290) hx hb dL_leaps_245 (by decide) (fun q => absurd q c_245) (fun _ => ?_)
        refine lv_iload hx hb dL_leaps_248 (lv_at hl 0 rfl) ?_
        have c_250 : ¬ ((nI sl) : Int32) < 0 := nI_pos (by omega)
        refine lv_if_lt (tgt := 290) hx hb dL_leaps_250 (by decide) (fun q => absurd q c_250) (fun _ => ?_)
        refine lv_iload hx hb dL_leaps_253 (lv_at hl 0 rfl) ?_
        refine lv_iload hx hb dL_leaps_255 (lv_at hl 13 rfl) ?_
        have c_257 : ¬ ((nI ru) : Int32) < (nI sl) := nI_lt0 (by omega) (by omega) hsl
        refine lv_icmp_gt (tgt := 290) hx hb dL_leaps_257 (by decide) (fun q => absurd q c_257) (fun _ => ?_)
        by_cases hoi : ow = it
        · subst hoi
          refine lv_aload_n hx hb dL_leaps_260 rfl (lv_at hl 9 rfl) ?_
          refine lv_iload hx hb dL_leaps_261 (lv_at hl 2 rfl) ?_
          refine lv_iload hx hb dL_leaps_263 (lv_at hl 1 rfl) ?_
          refine lv_iload hx hb dL_leaps_265 (lv_at hl 13 rfl) ?_
          refine lv_iconst (v := 0) hx hb dL_leaps_267 (by decide) ?_
          refine cB_i hJ.hd CF hK hN hA hS hP hD (b_fewest l D cI cZ cW cJ A X xo S u_152 ow ow ru 0 (by omega) (by omega) (by omega) (by decide) hJ) (cwV 4 hts gL_leaps_X8_fewest rfl rfl rfl (by decide +kernel) ⟨Nat.le_of_ble_eq_true rfl, Nat.le_of_ble_eq_true rfl⟩) (As := [.int (nI ow), .int (nI ow), .int (nI ru), .int 0]) (rest := []) rfl hl.1 rfl (Nat.le_of_ble_eq_true rfl) dL_leaps_268 ⟨Nat.le_of_ble_eq_true rfl, Nat.le_of_ble_eq_true rfl⟩ (fun r_268 u_268 H locs hq hP hD hS => ?_)
          obtain ⟨hrv, hJ⟩ := hq
          subst hrv
          refine top_i (y := 0) d_self ?_
          refine lv_iload hx hb dL_leaps_271 (lv_at hl 2 rfl) ?_
          refine lv_iload hx hb dL_leaps_273 (lv_at hl 1 rfl) ?_
          have c_275 : ((nI ow) : Int32) = (nI ow) := rfl
          refine lv_icmp_ne (tgt := 282) hx hb dL_leaps_275 (by decide) (fun q => absurd c_275 q) (fun _ => ?_)
          refine lv_iconst (v := 0) hx hb dL_leaps_278 (by decide) ?_
          refine lv_goto (tgt := 283) hx hb dL_leaps_279 (by decide) ?_
          have c_283 : (0 : Int32) = 0 := rfl
          refine lv_icmp_ne (tgt := 290) hx hb dL_leaps_283 (by decide) (fun q => absurd c_283 q) (fun _ => ?_)
          refine lv_iconst (v := 1) hx hb dL_leaps_286 (by decide) ?_
          refine lv_goto (tgt := 291) hx hb dL_leaps_287 (by decide) ?_
          exact W.zret (v := 1) (ty := .boolean) hx hb hr (rfl) (fun t9 ht9 hW9 => ⟨⟨1, u_268, rfl, ⟨rfl, hJ⟩, by rw [ht9]; exact hP, hD⟩, hS.F ht9⟩) hS.2.2 dL_leaps_291
        · skip
          refine lv_aload_n hx hb dL_leaps_260 rfl (lv_at hl 9 rfl) ?_
          refine lv_iload hx hb dL_leaps_261 (lv_at hl 2 rfl) ?_
          refine lv_iload hx hb dL_leaps_263 (lv_at hl 1 rfl) ?_
          refine lv_iload hx hb dL_leaps_265 (lv_at hl 13 rfl) ?_
          refine lv_iconst (v := 0) hx hb dL_leaps_267 (by decide) ?_
          refine cB_i hJ.hd CF hK hN hA hS hP hD (b_fewest l D cI cZ cW cJ A X xo S u_152 ow it ru 0 (by omega) (by omega) (by omega) (by decide) hJ) (cwV 4 hts gL_leaps_X8_fewest rfl rfl rfl (by decide +kernel) ⟨Nat.le_of_ble_eq_true rfl, Nat.le_of_ble_eq_true rfl⟩) (As := [.int (nI ow), .int (nI it), .int (nI ru), .int 0]) (rest := []) rfl hl.1 rfl (Nat.le_of_ble_eq_true rfl) dL_leaps_268 ⟨Nat.le_of_ble_eq_true rfl, Nat.le_of_ble_eq_true rfl⟩ (fun r_268 u_268 H locs hq hP hD hS => ?_)
          obtain ⟨hrv, hJ⟩ := hq
          subst hrv
          refine top_i (y := 1) (d_one hol hoi (RS_iff.mpr ⟨ru, Nat.le_refl _, hEv⟩)) ?_
          refine lv_iload hx hb dL_leaps_271 (lv_at hl 2 rfl) ?_
          refine lv_iload hx hb dL_leaps_273 (lv_at hl 1 rfl) ?_
          have c_275 : ¬ ((nI ow) : Int32) = (nI it) := nI_nee (by omega) (by omega) hoi
          refine lv_icmp_ne (tgt := 282) hx hb dL_leaps_275 (by decide) (fun _ => ?_) (fun q => absurd q c_275)
          refine lv_iconst (v := 1) hx hb dL_leaps_282 (by decide) ?_
          have c_283 : (1 : Int32) = 1 := rfl
          refine lv_icmp_ne (tgt := 290) hx hb dL_leaps_283 (by decide) (fun q => absurd c_283 q) (fun _ => ?_)
          refine lv_iconst (v := 1) hx hb dL_leaps_286 (by decide) ?_
          refine lv_goto (tgt := 291) hx hb dL_leaps_287 (by decide) ?_
          exact W.zret (v := 1) (ty := .boolean) hx hb hr (rfl) (fun t9 ht9 hW9 => ⟨⟨1, u_268, rfl, ⟨rfl, hJ⟩, by rw [ht9]; exact hP, hD⟩, hS.F ht9⟩) hS.2.2 dL_leaps_291
  · skip
    refine lv_aload_n hx hb dL_leaps_0 rfl (lv_at hl 0 rfl) ?_
    refine lv_iload_n hx hb dL_leaps_1 rfl (lv_at hl 1 rfl) ?_
    refine lv_iload_n hx hb dL_leaps_2 rfl (lv_at hl 2 rfl) ?_
    refine lv_iload_n hx hb dL_leaps_3 rfl (lv_at hl 3 rfl) ?_
    obtain ⟨m9, hm9, em, (⟨q9, hno⟩ | ⟨q9, tc, tr, tt, tp, k9, wb, e0, e1, e2, e3, e4, hs9, htc, htr, htp1, htp2, htp3, htt1, htt2, hdd, hkk, hww, hEv⟩)⟩ := lps hJ.wf (d := (-1)) (Or.inr rfl) hc hr9 hu hst
    · skip
      refine lv_iconst (v := 1) hx hb dL_leaps_4 (by decide) ?_
      have c_5 : ¬ ((-1) : Int32) = 1 := by decide
      refine lv_icmp_ne (tgt := 12) hx hb dL_leaps_5 (by decide) (fun _ => ?_) (fun q => absurd q c_5)
      refine lv_iconst (v := 4) hx hb dL_leaps_12 (by decide) ?_
      refine cB_i hJ.hd CF hK hN hA hS hP hD (b_cellOf l D cI cZ cW cJ A X xo S XB xc xr 4 (by omega) (by omega) (by decide) hJ) (cwV 3 hts gL_leaps_X8_cellOf rfl rfl rfl (by decide +kernel) ⟨Nat.le_of_ble_eq_true rfl, Nat.le_of_ble_eq_true rfl⟩) (As := [.int (nI xc), .int (nI xr), .int 4]) (rest := []) rfl hl.1 rfl (Nat.le_of_ble_eq_true rfl) dL_leaps_13 ⟨Nat.le_of_ble_eq_true rfl, Nat.le_of_ble_eq_true rfl⟩ (fun r_13 u_13 H locs hq hP hD hS => ?_)
      obtain ⟨hrv, hJ⟩ := hq
      subst hrv
      refine top_i (y := (nI m9)) em ?_
      refine lv_istore (lv' := [(5, .int (nI m9)), (0, .ref xo), (1, .int (nI xc)), (2, .int (nI xr)), (3, .int (-1)), (4, .int (nI ru))]) hx hb dL_leaps_16 hl (by decide) rfl (fun ls hl => ?_)
      refine lv_aload_n hx hb dL_leaps_18 rfl (lv_at hl 1 rfl) ?_
      refine lv_iload_n hx hb dL_leaps_19 rfl (lv_at hl 2 rfl) ?_
      refine lv_iload_n hx hb dL_leaps_20 rfl (lv_at hl 3 rfl) ?_
      refine lv_iload_n hx hb dL_leaps_21 rfl (lv_at hl 4 rfl) ?_
      refine lv_iload hx hb dL_leaps_22 (lv_at hl 5 rfl) ?_
      refine lv_iconst (v := 0) hx hb dL_leaps_24 (by decide) ?_
      refine cB_i hJ.hd CF hK hN hA hS hP hD (b_ifLeapt l D cI cZ cW cJ A X xo S u_13 xc xr (-1) ru 0 (by omega) (by omega) (by decide) (by omega) (by decide) hJ) (cwV 5 hts gL_leaps_X8_ifLeapt rfl rfl rfl (by decide +kernel) ⟨Nat.le_of_ble_eq_true rfl, Nat.le_of_ble_eq_true rfl⟩) (As := [.int (nI xc), .int (nI xr), .int (-1), .int (nI ru), .int 0]) (rest := []) rfl hl.1 rfl (Nat.le_of_ble_eq_true rfl) dL_leaps_25 ⟨Nat.le_of_ble_eq_true rfl, Nat.le_of_ble_eq_true rfl⟩ (fun r_25 u_25 H locs hq hP hD hS => ?_)
      obtain ⟨hrv, hJ⟩ := hq
      subst hrv
      refine top_i (y := (-1)) (hno 0) ?_
      refine lv_istore (lv' := [(6, .int (-1)), (5, .int (nI m9)), (0, .ref xo), (1, .int (nI xc)), (2, .int (nI xr)), (3, .int (-1)), (4, .int (nI ru))]) hx hb dL_leaps_28 hl (by decide) rfl (fun ls hl => ?_)
      refine lv_iload hx hb dL_leaps_30 (lv_at hl 6 rfl) ?_
      refine lv_iload hx hb dL_leaps_32 (lv_at hl 1 rfl) ?_
      have c_34 : ¬ ((nI ru) : Int32) ≤ (nI m9) := nI_len (by omega) (by omega) q9
      refine lv_icmp_le (tgt := 63) hx hb dL_leaps_34 (by decide) (fun q => absurd q c_34) (fun _ => ?_)
      refine lv_iload hx hb dL_leaps_37 (lv_at hl 0 rfl) ?_
      refine lv_iconst (v := (-1)) hx hb dL_leaps_39 (by decide) ?_
      have c_40 : ((-1) : Int32) = (-1) := rfl
      refine lv_icmp_ne (tgt := 61) hx hb dL_leaps_40 (by decide) (fun q => absurd c_40 q) (fun _ => ?_)
      refine lv_aload_n hx hb dL_leaps_43 rfl (lv_at hl 2 rfl) ?_
      refine lv_iload_n hx hb dL_leaps_44 rfl (lv_at hl 3 rfl) ?_
      refine lv_iload_n hx hb dL_leaps_45 rfl (lv_at hl 4 rfl) ?_
      refine lv_iload_n hx hb dL_leaps_46 rfl (lv_at hl 5 rfl) ?_
      refine lv_iload hx hb dL_leaps_47 (lv_at hl 6 rfl) ?_
      refine lv_iconst (v := 2) hx hb dL_leaps_49 (by decide) ?_
      refine cB_i hJ.hd CF hK hN hA hS hP hD (b_ifLeapt l D cI cZ cW cJ A X xo S u_25 xc xr (-1) ru 2 (by omega) (by omega) (by decide) (by omega) (by decide) hJ) (cwV 5 hts gL_leaps_X8_ifLeapt rfl rfl rfl (by decide +kernel) ⟨Nat.le_of_ble_eq_true rfl, Nat.le_of_ble_eq_true rfl⟩) (As := [.int (nI xc), .int (nI xr), .int (-1), .int (nI ru), .int 2]) (rest := []) rfl hl.1 rfl (Nat.le_of_ble_eq_true rfl) dL_leaps_50 ⟨Nat.le_of_ble_eq_true rfl, Nat.le_of_ble_eq_true rfl⟩ (fun r_50 u_50 H locs hq hP hD hS => ?_)
      obtain ⟨hrv, hJ⟩ := hq
      subst hrv
      refine top_i (y := (-1)) (hno 2) ?_
      refine lv_iconst (v := (-1)) hx hb dL_leaps_53 (by decide) ?_
      have c_54 : ((-1) : Int32) = (-1) := rfl
      refine lv_icmp_ne (tgt := 61) hx hb dL_leaps_54 (by decide) (fun q => absurd c_54 q) (fun _ => ?_)
      refine lv_iconst (v := 1) hx hb dL_leaps_57 (by decide) ?_
      refine lv_goto (tgt := 62) hx hb dL_leaps_58 (by decide) ?_
      exact W.zret (v := 1) (ty := .boolean) hx hb hr (rfl) (fun t9 ht9 hW9 => ⟨⟨1, u_50, rfl, ⟨rfl, hJ⟩, by rw [ht9]; exact hP, hD⟩, hS.F ht9⟩) hS.2.2 dL_leaps_62
    · have hdist : xc = tc + k9 := by
        rcases hdd with ⟨h1, h2⟩ | ⟨h1, h2⟩
        · exact absurd h1 (by decide)
        · exact h2
      obtain ⟨ow, eow⟩ : ∃ z, lgN (SB (Bk S.1)) (20 * xr + xc) = z := ⟨_, rfl⟩
      obtain ⟨it, eit⟩ : ∃ z, lgN (SB (Bk S.1)) (20 * tr + tc) = z := ⟨_, rfl⟩
      rw [eow, eit] at hEv
      have how : cellS S xc xr 2 = nI ow := by rw [← eow]; exact (cell_st hc hst).2
      have hit : cellS S tc tr 2 = nI it := by rw [← eit]; exact (cell_st htc hs9).2
      have hs1 : cellS S tc tr 1 = 1 := (cell_st htc hs9).1
      have hol : ow < nS S := by rw [← eow]; exact own_S hc hr9 hst
      have hil : it < nS S := by rw [← eit]; exact own_S htc htr hs9
      have hb9 : (ru + 1) * tt ≤ 4 * 100 := Nat.mul_le_mul (by omega) (by omega)
      obtain ⟨sl, hsl, esl, hsl2⟩ : ∃ sl, sl ≤ ru ∧ slowS S ow it = nI sl ∧ sl ≤ 3 := by
        rcases slow_spec S ow it with ⟨-, h2⟩ | ⟨sl, h1, h2, h3, h4⟩
        · exact absurd hEv (h2 ru)
        · exact ⟨sl, h4 ru hEv, h2, h1⟩
      refine lv_iconst (v := 1) hx hb dL_leaps_4 (by decide) ?_
      have c_5 : ¬ ((-1) : Int32) = 1 := by decide
      refine lv_icmp_ne (tgt := 12) hx hb dL_leaps_5 (by decide) (fun _ => ?_) (fun q => absurd q c_5)
      refine lv_iconst (v := 4) hx hb dL_leaps_12 (by decide) ?_
      refine cB_i hJ.hd CF hK hN hA hS hP hD (b_cellOf l D cI cZ cW cJ A X xo S XB xc xr 4 (by omega) (by omega) (by decide) hJ) (cwV 3 hts gL_leaps_X8_cellOf rfl rfl rfl (by decide +kernel) ⟨Nat.le_of_ble_eq_true rfl, Nat.le_of_ble_eq_true rfl⟩) (As := [.int (nI xc), .int (nI xr), .int 4]) (rest := []) rfl hl.1 rfl (Nat.le_of_ble_eq_true rfl) dL_leaps_13 ⟨Nat.le_of_ble_eq_true rfl, Nat.le_of_ble_eq_true rfl⟩ (fun r_13 u_13 H locs hq hP hD hS => ?_)
      obtain ⟨hrv, hJ⟩ := hq
      subst hrv
      refine top_i (y := (nI m9)) em ?_
      refine lv_istore (lv' := [(5, .int (nI m9)), (0, .ref xo), (1, .int (nI xc)), (2, .int (nI xr)), (3, .int (-1)), (4, .int (nI ru))]) hx hb dL_leaps_16 hl (by decide) rfl (fun ls hl => ?_)
      refine lv_aload_n hx hb dL_leaps_18 rfl (lv_at hl 1 rfl) ?_
      refine lv_iload_n hx hb dL_leaps_19 rfl (lv_at hl 2 rfl) ?_
      refine lv_iload_n hx hb dL_leaps_20 rfl (lv_at hl 3 rfl) ?_
      refine lv_iload_n hx hb dL_leaps_21 rfl (lv_at hl 4 rfl) ?_
      refine lv_iload hx hb dL_leaps_22 (lv_at hl 5 rfl) ?_
      refine lv_iconst (v := 0) hx hb dL_leaps_24 (by decide) ?_
      refine cB_i hJ.hd CF hK hN hA hS hP hD (b_ifLeapt l D cI cZ cW cJ A X xo S u_13 xc xr (-1) ru 0 (by omega) (by omega) (by decide) (by omega) (by decide) hJ) (cwV 5 hts gL_leaps_X8_ifLeapt rfl rfl rfl (by decide +kernel) ⟨Nat.le_of_ble_eq_true rfl, Nat.le_of_ble_eq_true rfl⟩) (As := [.int (nI xc), .int (nI xr), .int (-1), .int (nI ru), .int 0]) (rest := []) rfl hl.1 rfl (Nat.le_of_ble_eq_true rfl) dL_leaps_25 ⟨Nat.le_of_ble_eq_true rfl, Nat.le_of_ble_eq_true rfl⟩ (fun r_25 u_25 H locs hq hP hD hS => ?_)
      obtain ⟨hrv, hJ⟩ := hq
      subst hrv
      refine top_i (y := (nI tc)) e0 ?_
      refine lv_istore (lv' := [(6, .int (nI tc)), (5, .int (nI m9)), (0, .ref xo), (1, .int (nI xc)), (2, .int (nI xr)), (3, .int (-1)), (4, .int (nI ru))]) hx hb dL_leaps_28 hl (by decide) rfl (fun ls hl => ?_)
      refine lv_iload hx hb dL_leaps_30 (lv_at hl 6 rfl) ?_
      refine lv_iload hx hb dL_leaps_32 (lv_at hl 1 rfl) ?_
      have c_34 : ((nI ru) : Int32) ≤ (nI m9) := nI_let (by omega) (by omega) q9
      refine lv_icmp_le (tgt := 63) hx hb dL_leaps_34 (by decide) (fun _ => ?_) (fun q => absurd c_34 q)
      refine lv_aload_n hx hb dL_leaps_63 rfl (lv_at hl 2 rfl) ?_
      refine lv_iload_n hx hb dL_leaps_64 rfl (lv_at hl 3 rfl) ?_
      refine lv_iload_n hx hb dL_leaps_65 rfl (lv_at hl 4 rfl) ?_
      refine lv_iload_n hx hb dL_leaps_66 rfl (lv_at hl 5 rfl) ?_
      refine lv_iload hx hb dL_leaps_67 (lv_at hl 6 rfl) ?_
      refine lv_iconst (v := 1) hx hb dL_leaps_69 (by decide) ?_
      refine cB_i hJ.hd CF hK hN hA hS hP hD (b_ifLeapt l D cI cZ cW cJ A X xo S u_25 xc xr (-1) ru 1 (by omega) (by omega) (by decide) (by omega) (by decide) hJ) (cwV 5 hts gL_leaps_X8_ifLeapt rfl rfl rfl (by decide +kernel) ⟨Nat.le_of_ble_eq_true rfl, Nat.le_of_ble_eq_true rfl⟩) (As := [.int (nI xc), .int (nI xr), .int (-1), .int (nI ru), .int 1]) (rest := []) rfl hl.1 rfl (Nat.le_of_ble_eq_true rfl) dL_leaps_70 ⟨Nat.le_of_ble_eq_true rfl, Nat.le_of_ble_eq_true rfl⟩ (fun r_70 u_70 H locs hq hP hD hS => ?_)
      obtain ⟨hrv, hJ⟩ := hq
      subst hrv
      refine top_i (y := (nI tr)) e1 ?_
      refine lv_istore (lv' := [(7, .int (nI tr)), (6, .int (nI tc)), (5, .int (nI m9)), (0, .ref xo), (1, .int (nI xc)), (2, .int (nI xr)), (3, .int (-1)), (4, .int (nI ru))]) hx hb dL_leaps_73 hl (by decide) rfl (fun ls hl => ?_)
      refine lv_aload_n hx hb dL_leaps_75 rfl (lv_at hl 3 rfl) ?_
      refine lv_iload_n hx hb dL_leaps_76 rfl (lv_at hl 4 rfl) ?_
      refine lv_iload_n hx hb dL_leaps_77 rfl (lv_at hl 5 rfl) ?_
      refine lv_iload_n hx hb dL_leaps_78 rfl (lv_at hl 6 rfl) ?_
      refine lv_iload hx hb dL_leaps_79 (lv_at hl 7 rfl) ?_
      refine lv_iconst (v := 3) hx hb dL_leaps_81 (by decide) ?_
      refine cB_i hJ.hd CF hK hN hA hS hP hD (b_ifLeapt l D cI cZ cW cJ A X xo S u_70 xc xr (-1) ru 3 (by omega) (by omega) (by decide) (by omega) (by decide) hJ) (cwV 5 hts gL_leaps_X8_ifLeapt rfl rfl rfl (by decide +kernel) ⟨Nat.le_of_ble_eq_true rfl, Nat.le_of_ble_eq_true rfl⟩) (As := [.int (nI xc), .int (nI xr), .int (-1), .int (nI ru), .int 3]) (rest := []) rfl hl.1 rfl (Nat.le_of_ble_eq_true rfl) dL_leaps_82 ⟨Nat.le_of_ble_eq_true rfl, Nat.le_of_ble_eq_true rfl⟩ (fun r_82 u_82 H locs hq hP hD hS => ?_)
      obtain ⟨hrv, hJ⟩ := hq
      subst hrv
      refine top_i (y := (nI tp)) e3 ?_
      refine lv_istore (lv' := [(8, .int (nI tp)), (7, .int (nI tr)), (6, .int (nI tc)), (5, .int (nI m9)), (0, .ref xo), (1, .int (nI xc)), (2, .int (nI xr)), (3, .int (-1)), (4, .int (nI ru))]) hx hb dL_leaps_85 hl (by decide) rfl (fun ls hl => ?_)
      refine lv_aload_n hx hb dL_leaps_87 rfl (lv_at hl 4 rfl) ?_
      refine lv_iload_n hx hb dL_leaps_88 rfl (lv_at hl 5 rfl) ?_
      refine lv_iload_n hx hb dL_leaps_89 rfl (lv_at hl 6 rfl) ?_
      refine lv_iload_n hx hb dL_leaps_90 rfl (lv_at hl 7 rfl) ?_
      refine lv_iload hx hb dL_leaps_91 (lv_at hl 8 rfl) ?_
      refine lv_iconst (v := 4) hx hb dL_leaps_93 (by decide) ?_
      refine cB_i hJ.hd CF hK hN hA hS hP hD (b_ifLeapt l D cI cZ cW cJ A X xo S u_82 xc xr (-1) ru 4 (by omega) (by omega) (by decide) (by omega) (by decide) hJ) (cwV 5 hts gL_leaps_X8_ifLeapt rfl rfl rfl (by decide +kernel) ⟨Nat.le_of_ble_eq_true rfl, Nat.le_of_ble_eq_true rfl⟩) (As := [.int (nI xc), .int (nI xr), .int (-1), .int (nI ru), .int 4]) (rest := []) rfl hl.1 rfl (Nat.le_of_ble_eq_true rfl) dL_leaps_94 ⟨Nat.le_of_ble_eq_true rfl, Nat.le_of_ble_eq_true rfl⟩ (fun r_94 u_94 H locs hq hP hD hS => ?_)
      obtain ⟨hrv, hJ⟩ := hq
      subst hrv
      refine top_i (y := (bI wb)) e4 ?_
      refine lv_istore (lv' := [(9, .int (bI wb)), (8, .int (nI tp)), (7, .int (nI tr)), (6, .int (nI tc)), (5, .int (nI m9)), (0, .ref xo), (1, .int (nI xc)), (2, .int (nI xr)), (3, .int (-1)), (4, .int (nI ru))]) hx hb dL_leaps_97 hl (by decide) rfl (fun ls hl => ?_)
      refine lv_aload_n hx hb dL_leaps_99 rfl (lv_at hl 5 rfl) ?_
      refine lv_iload_n hx hb dL_leaps_100 rfl (lv_at hl 6 rfl) ?_
      refine lv_iload_n hx hb dL_leaps_101 rfl (lv_at hl 7 rfl) ?_
      refine lv_iload_n hx hb dL_leaps_102 rfl (lv_at hl 8 rfl) ?_
      refine lv_iload hx hb dL_leaps_103 (lv_at hl 9 rfl) ?_
      refine lv_iconst (v := 2) hx hb dL_leaps_105 (by decide) ?_
      refine cB_i hJ.hd CF hK hN hA hS hP hD (b_ifLeapt l D cI cZ cW cJ A X xo S u_94 xc xr (-1) ru 2 (by omega) (by omega) (by decide) (by omega) (by decide) hJ) (cwV 5 hts gL_leaps_X8_ifLeapt rfl rfl rfl (by decide +kernel) ⟨Nat.le_of_ble_eq_true rfl, Nat.le_of_ble_eq_true rfl⟩) (As := [.int (nI xc), .int (nI xr), .int (-1), .int (nI ru), .int 2]) (rest := []) rfl hl.1 rfl (Nat.le_of_ble_eq_true rfl) dL_leaps_106 ⟨Nat.le_of_ble_eq_true rfl, Nat.le_of_ble_eq_true rfl⟩ (fun r_106 u_106 H locs hq hP hD hS => ?_)
      obtain ⟨hrv, hJ⟩ := hq
      subst hrv
      refine top_i (y := (nI tt)) e2 ?_
      refine lv_istore (lv' := [(10, .int (nI tt)), (9, .int (bI wb)), (8, .int (nI tp)), (7, .int (nI tr)), (6, .int (nI tc)), (5, .int (nI m9)), (0, .ref xo), (1, .int (nI xc)), (2, .int (nI xr)), (3, .int (-1)), (4, .int (nI ru))]) hx hb dL_leaps_109 hl (by decide) rfl (fun ls hl => ?_)
      refine lv_aload_n hx hb dL_leaps_111 rfl (lv_at hl 6 rfl) ?_
      refine lv_iload_n hx hb dL_leaps_112 rfl (lv_at hl 7 rfl) ?_
      refine lv_iload_n hx hb dL_leaps_113 rfl (lv_at hl 8 rfl) ?_
      refine lv_iconst (v := 2) hx hb dL_leaps_114 (by decide) ?_
      refine cB_i hJ.hd CF hK hN hA hS hP hD (b_cellOf l D cI cZ cW cJ A X xo S u_106 xc xr 2 (by omega) (by omega) (by decide) hJ) (cwV 3 hts gL_leaps_X8_cellOf rfl rfl rfl (by decide +kernel) ⟨Nat.le_of_ble_eq_true rfl, Nat.le_of_ble_eq_true rfl⟩) (As := [.int (nI xc), .int (nI xr), .int 2]) (rest := []) rfl hl.1 rfl (Nat.le_of_ble_eq_true rfl) dL_leaps_115 ⟨Nat.le_of_ble_eq_true rfl, Nat.le_of_ble_eq_true rfl⟩ (fun r_115 u_115 H locs hq hP hD hS => ?_)
      obtain ⟨hrv, hJ⟩ := hq
      subst hrv
      refine top_i (y := (nI ow)) how ?_
      refine lv_istore (lv' := [(11, .int (nI ow)), (10, .int (nI tt)), (9, .int (bI wb)), (8, .int (nI tp)), (7, .int (nI tr)), (6, .int (nI tc)), (5, .int (nI m9)), (0, .ref xo), (1, .int (nI xc)), (2, .int (nI xr)), (3, .int (-1)), (4, .int (nI ru))]) hx hb dL_leaps_118 hl (by decide) rfl (fun ls hl => ?_)
      refine lv_aload_n hx hb dL_leaps_120 rfl (lv_at hl 7 rfl) ?_
      refine lv_iload hx hb dL_leaps_121 (lv_at hl 5 rfl) ?_
      refine lv_iload hx hb dL_leaps_123 (lv_at hl 4 rfl) ?_
      refine lv_iconst (v := 2) hx hb dL_leaps_125 (by decide) ?_
      refine cB_i hJ.hd CF hK hN hA hS hP hD (b_cellOf l D cI cZ cW cJ A X xo S u_115 tc tr 2 (by omega) (by omega) (by decide) hJ) (cwV 3 hts gL_leaps_X8_cellOf rfl rfl rfl (by decide +kernel) ⟨Nat.le_of_ble_eq_true rfl, Nat.le_of_ble_eq_true rfl⟩) (As := [.int (nI tc), .int (nI tr), .int 2]) (rest := []) rfl hl.1 rfl (Nat.le_of_ble_eq_true rfl) dL_leaps_126 ⟨Nat.le_of_ble_eq_true rfl, Nat.le_of_ble_eq_true rfl⟩ (fun r_126 u_126 H locs hq hP hD hS => ?_)
      obtain ⟨hrv, hJ⟩ := hq
      subst hrv
      refine top_i (y := (nI it)) hit ?_
      refine lv_istore (lv' := [(12, .int (nI it)), (11, .int (nI ow)), (10, .int (nI tt)), (9, .int (bI wb)), (8, .int (nI tp)), (7, .int (nI tr)), (6, .int (nI tc)), (5, .int (nI m9)), (0, .ref xo), (1, .int (nI xc)), (2, .int (nI xr)), (3, .int (-1)), (4, .int (nI ru))]) hx hb dL_leaps_129 hl (by decide) rfl (fun ls hl => ?_)
      refine lv_aload_n hx hb dL_leaps_131 rfl (lv_at hl 8 rfl) ?_
      refine lv_iload hx hb dL_leaps_132 (lv_at hl 1 rfl) ?_
      refine lv_iload hx hb dL_leaps_134 (lv_at hl 0 rfl) ?_
      refine cB_i hJ.hd CF hK hN hA hS hP hD (b_slowest l D cI cZ cW cJ A X xo S u_126 ow it (by omega) (by omega) hJ) (cwV 2 hts gL_leaps_X8_slowest rfl rfl rfl (by decide +kernel) ⟨Nat.le_of_ble_eq_true rfl, Nat.le_of_ble_eq_true rfl⟩) (As := [.int (nI ow), .int (nI it)]) (rest := []) rfl hl.1 rfl (Nat.le_of_ble_eq_true rfl) dL_leaps_136 ⟨Nat.le_of_ble_eq_true rfl, Nat.le_of_ble_eq_true rfl⟩ (fun r_136 u_136 H locs hq hP hD hS => ?_)
      obtain ⟨hrv, hJ⟩ := hq
      subst hrv
      refine top_i (y := (nI sl)) esl ?_
      refine lv_istore (lv' := [(13, .int (nI sl)), (12, .int (nI it)), (11, .int (nI ow)), (10, .int (nI tt)), (9, .int (bI wb)), (8, .int (nI tp)), (7, .int (nI tr)), (6, .int (nI tc)), (5, .int (nI m9)), (0, .ref xo), (1, .int (nI xc)), (2, .int (nI xr)), (3, .int (-1)), (4, .int (nI ru))]) hx hb dL_leaps_139 hl (by decide) rfl (fun ls hl => ?_)
      refine lv_iload hx hb dL_leaps_141 (lv_at hl 7 rfl) ?_
      have c_143 : ¬ ((nI tc) : Int32) < 0 := nI_pos (by omega)
      refine lv_if_lt (tgt := 290) hx hb dL_leaps_143 (by decide) (fun q => absurd q c_143) (fun _ => ?_)
      refine lv_aload_n hx hb dL_leaps_146 rfl (lv_at hl 9 rfl) ?_
      refine lv_iload hx hb dL_leaps_147 (lv_at hl 7 rfl) ?_
      refine lv_iload hx hb dL_leaps_149 (lv_at hl 6 rfl) ?_
      refine lv_iconst (v := 1) hx hb dL_leaps_151 (by decide) ?_
      refine cB_i hJ.hd CF hK hN hA hS hP hD (b_cellOf l D cI cZ cW cJ A X xo S u_136 tc tr 1 (by omega) (by omega) (by decide) hJ) (cwV 3 hts gL_leaps_X8_cellOf rfl rfl rfl (by decide +kernel) ⟨Nat.le_of_ble_eq_true rfl, Nat.le_of_ble_eq_true rfl⟩) (As := [.int (nI tc), .int (nI tr), .int 1]) (rest := []) rfl hl.1 rfl (Nat.le_of_ble_eq_true rfl) dL_leaps_152 ⟨Nat.le_of_ble_eq_true rfl, Nat.le_of_ble_eq_true rfl⟩ (fun r_152 u_152 H locs hq hP hD hS => ?_)
      obtain ⟨hrv, hJ⟩ := hq
      subst hrv
      refine top_i (y := 1) hs1 ?_
      refine lv_iconst (v := 1) hx hb dL_leaps_155 (by decide) ?_
      have c_156 : (1 : Int32) = 1 := rfl
      refine lv_icmp_ne (tgt := 290) hx hb dL_leaps_156 (by decide) (fun q => absurd c_156 q) (fun _ => ?_)
      refine lv_iload hx hb dL_leaps_159 (lv_at hl 5 rfl) ?_
      refine lv_iload_n hx hb dL_leaps_161 rfl (lv_at hl 11 rfl) ?_
      have c_162 : ¬ ((nI tp) : Int32) < (nI xr) := nI_lt0 (by omega) (by omega) (by omega)
      refine lv_icmp_lt (tgt := 290) hx hb dL_leaps_162 (by decide) (fun q => absurd q c_162) (fun _ => ?_)
      refine lv_iload hx hb dL_leaps_165 (lv_at hl 5 rfl) ?_
      refine lv_iload hx hb dL_leaps_167 (lv_at hl 6 rfl) ?_
      have c_169 : ¬ ((nI tp) : Int32) < (nI tr) := nI_lt0 (by omega) (by omega) (by omega)
      refine lv_icmp_lt (tgt := 290) hx hb dL_leaps_169 (by decide) (fun q => absurd q c_169) (fun _ => ?_)
      refine lv_iload hx hb dL_leaps_172 (lv_at hl 5 rfl) ?_
      refine lv_bipush (v := 9) hx hb dL_leaps_174 (by decide) ?_
      have c_176 : ¬ (9 : Int32) < (nI tp) := nI_lt0 (a := 9) (b := tp) (by decide) (by omega) (by omega)
      refine lv_icmp_gt (tgt := 290) hx hb dL_leaps_176 (by decide) (fun q => absurd q c_176) (fun _ => ?_)
      refine lv_iload hx hb dL_leaps_179 (lv_at hl 3 rfl) ?_
      refine lv_iconst (v := 1) hx hb dL_leaps_181 (by decide) ?_
      have c_182 : ¬ ((nI tt) : Int32) ≤ 1 := nI_len (a := tt) (b := 1) (by omega) (by decide) (by omega)
      refine lv_icmp_le (tgt := 290) hx hb dL_leaps_182 (by decide) (fun q => absurd q c_182) (fun _ => ?_)
      refine lv_iload_n hx hb dL_leaps_185 rfl (lv_at hl 12 rfl) ?_
      refine lv_iconst (v := 1) hx hb dL_leaps_186 (by decide) ?_
      have c_187 : ¬ ((-1) : Int32) = 1 := by decide
      refine lv_icmp_ne (tgt := 199) hx hb dL_leaps_187 (by decide) (fun _ => ?_) (fun q => absurd q c_187)
      refine lv_iload hx hb dL_leaps_199 (lv_at hl 7 rfl) ?_
      refine lv_iload_n hx hb dL_leaps_201 rfl (lv_at hl 10 rfl) ?_
      have c_202 : ¬ ((nI xc) : Int32) < (nI tc) := nI_lt0 (by omega) (by omega) (by omega)
      refine lv_icmp_gt (tgt := 290) hx hb dL_leaps_202 (by decide) (fun q => absurd q c_202) (fun _ => ?_)
      refine lv_iload hx hb dL_leaps_205 (lv_at hl 7 rfl) ?_
      refine lv_iload_n hx hb dL_leaps_207 rfl (lv_at hl 10 rfl) ?_
      refine lv_isub hx hb dL_leaps_208 ?_
      refine lv_iload_n hx hb dL_leaps_209 rfl (lv_at hl 12 rfl) ?_
      refine lv_imul hx hb dL_leaps_210 ?_
      refine top_i (y := (nI k9)) (dist2 hdist) ?_
      refine lv_iload hx hb dL_leaps_211 (lv_at hl 13 rfl) ?_
      refine lv_iconst (v := 1) hx hb dL_leaps_213 (by decide) ?_
      refine lv_iadd hx hb dL_leaps_214 ?_
      refine top_i (y := (nI (ru + 1))) (nI_add ru 1) ?_
      refine lv_iload hx hb dL_leaps_215 (lv_at hl 3 rfl) ?_
      refine lv_imul hx hb dL_leaps_217 ?_
      refine top_i (y := (nI ((ru + 1) * tt))) (pk_mul (ru + 1) tt) ?_
      have c_218 : ¬ ((nI ((ru + 1) * tt)) : Int32) < (nI k9) := nI_lt0 (by omega) (by omega) hkk
      refine lv_icmp_gt (tgt := 290) hx hb dL_leaps_218 (by decide) (fun q => absurd q c_218) (fun _ => ?_)
      rcases wb with _ | _
      · skip
        refine lv_iload hx hb dL_leaps_221 (lv_at hl 4 rfl) ?_
        refine top_i (y := 0) rfl ?_
        refine lv_iconst (v := 1) hx hb dL_leaps_223 (by decide) ?_
        have c_224 : ¬ (0 : Int32) = 1 := by decide
        refine lv_icmp_eq (tgt := 243) hx hb dL_leaps_224 (by decide) (fun q => absurd q c_224) (fun _ => ?_)
        refine lv_iload hx hb dL_leaps_227 (lv_at hl 7 rfl) ?_
        refine lv_iload_n hx hb dL_leaps_229 rfl (lv_at hl 10 rfl) ?_
        refine lv_isub hx hb dL_leaps_230 ?_
        refine lv_iload_n hx hb dL_leaps_231 rfl (lv_at hl 12 rfl) ?_
        refine lv_imul hx hb dL_leaps_232 ?_
        refine top_i (y := (nI k9)) (dist2 hdist) ?_
        refine lv_iload hx hb dL_leaps_233 (lv_at hl 13 rfl) ?_
        refine lv_iconst (v := 1) hx hb dL_leaps_235 (by decide) ?_
        refine lv_iadd hx hb dL_leaps_236 ?_
        refine top_i (y := (nI (ru + 1))) (nI_add ru 1) ?_
        refine lv_iload hx hb dL_leaps_237 (lv_at hl 3 rfl) ?_
        refine lv_imul hx hb dL_leaps_239 ?_
        refine top_i (y := (nI ((ru + 1) * tt))) (pk_mul (ru + 1) tt) ?_
        have c_240 : ((nI k9) : Int32) = (nI ((ru + 1) * tt)) := congrArg nI (hww rfl)
        refine lv_icmp_ne (tgt := 290) hx hb dL_leaps_240 (by decide) (fun q => absurd c_240 q) (fun _ => ?_)
        refine lv_iload hx hb dL_leaps_243 (lv_at hl 1 rfl) ?_
        have c_245 : ¬ ((nI it) : Int32) < 0 := nI_pos (by omega)
        refine lv_if_lt (tgt := 290) hx hb dL_leaps_245 (by decide) (fun q => absurd q c_245) (fun _ => ?_)
        refine lv_iload hx hb dL_leaps_248 (lv_at hl 0 rfl) ?_
        have c_250 : ¬ ((nI sl) : Int32) < 0 := nI_pos (by omega)
        refine lv_if_lt (tgt := 290) hx hb dL_leaps_250 (by decide) (fun q => absurd q c_250) (fun _ => ?_)
        refine lv_iload hx hb dL_leaps_253 (lv_at hl 0 rfl) ?_
        refine lv_iload hx hb dL_leaps_255 (lv_at hl 13 rfl) ?_
        have c_257 : ¬ ((nI ru) : Int32) < (nI sl) := nI_lt0 (by omega) (by omega) hsl
        refine lv_icmp_gt (tgt := 290) hx hb dL_leaps_257 (by decide) (fun q => absurd q c_257) (fun _ => ?_)
        by_cases hoi : ow = it
        · subst hoi
          refine lv_aload_n hx hb dL_leaps_260 rfl (lv_at hl 9 rfl) ?_
          refine lv_iload hx hb dL_leaps_261 (lv_at hl 2 rfl) ?_
          refine lv_iload hx hb dL_leaps_263 (lv_at hl 1 rfl) ?_
          refine lv_iload hx hb dL_leaps_265 (lv_at hl 13 rfl) ?_
          refine lv_iconst (v := 0) hx hb dL_leaps_267 (by decide) ?_
          refine cB_i hJ.hd CF hK hN hA hS hP hD (b_fewest l D cI cZ cW cJ A X xo S u_152 ow ow ru 0 (by omega) (by omega) (by omega) (by decide) hJ) (cwV 4 hts gL_leaps_X8_fewest rfl rfl rfl (by decide +kernel) ⟨Nat.le_of_ble_eq_true rfl, Nat.le_of_ble_eq_true rfl⟩) (As := [.int (nI ow), .int (nI ow), .int (nI ru), .int 0]) (rest := []) rfl hl.1 rfl (Nat.le_of_ble_eq_true rfl) dL_leaps_268 ⟨Nat.le_of_ble_eq_true rfl, Nat.le_of_ble_eq_true rfl⟩ (fun r_268 u_268 H locs hq hP hD hS => ?_)
          obtain ⟨hrv, hJ⟩ := hq
          subst hrv
          refine top_i (y := 0) d_self ?_
          refine lv_iload hx hb dL_leaps_271 (lv_at hl 2 rfl) ?_
          refine lv_iload hx hb dL_leaps_273 (lv_at hl 1 rfl) ?_
          have c_275 : ((nI ow) : Int32) = (nI ow) := rfl
          refine lv_icmp_ne (tgt := 282) hx hb dL_leaps_275 (by decide) (fun q => absurd c_275 q) (fun _ => ?_)
          refine lv_iconst (v := 0) hx hb dL_leaps_278 (by decide) ?_
          refine lv_goto (tgt := 283) hx hb dL_leaps_279 (by decide) ?_
          have c_283 : (0 : Int32) = 0 := rfl
          refine lv_icmp_ne (tgt := 290) hx hb dL_leaps_283 (by decide) (fun q => absurd c_283 q) (fun _ => ?_)
          refine lv_iconst (v := 1) hx hb dL_leaps_286 (by decide) ?_
          refine lv_goto (tgt := 291) hx hb dL_leaps_287 (by decide) ?_
          exact W.zret (v := 1) (ty := .boolean) hx hb hr (rfl) (fun t9 ht9 hW9 => ⟨⟨1, u_268, rfl, ⟨rfl, hJ⟩, by rw [ht9]; exact hP, hD⟩, hS.F ht9⟩) hS.2.2 dL_leaps_291
        · skip
          refine lv_aload_n hx hb dL_leaps_260 rfl (lv_at hl 9 rfl) ?_
          refine lv_iload hx hb dL_leaps_261 (lv_at hl 2 rfl) ?_
          refine lv_iload hx hb dL_leaps_263 (lv_at hl 1 rfl) ?_
          refine lv_iload hx hb dL_leaps_265 (lv_at hl 13 rfl) ?_
          refine lv_iconst (v := 0) hx hb dL_leaps_267 (by decide) ?_
          refine cB_i hJ.hd CF hK hN hA hS hP hD (b_fewest l D cI cZ cW cJ A X xo S u_152 ow it ru 0 (by omega) (by omega) (by omega) (by decide) hJ) (cwV 4 hts gL_leaps_X8_fewest rfl rfl rfl (by decide +kernel) ⟨Nat.le_of_ble_eq_true rfl, Nat.le_of_ble_eq_true rfl⟩) (As := [.int (nI ow), .int (nI it), .int (nI ru), .int 0]) (rest := []) rfl hl.1 rfl (Nat.le_of_ble_eq_true rfl) dL_leaps_268 ⟨Nat.le_of_ble_eq_true rfl, Nat.le_of_ble_eq_true rfl⟩ (fun r_268 u_268 H locs hq hP hD hS => ?_)
          obtain ⟨hrv, hJ⟩ := hq
          subst hrv
          refine top_i (y := 1) (d_one hol hoi (RS_iff.mpr ⟨ru, Nat.le_refl _, hEv⟩)) ?_
          refine lv_iload hx hb dL_leaps_271 (lv_at hl 2 rfl) ?_
          refine lv_iload hx hb dL_leaps_273 (lv_at hl 1 rfl) ?_
          have c_275 : ¬ ((nI ow) : Int32) = (nI it) := nI_nee (by omega) (by omega) hoi
          refine lv_icmp_ne (tgt := 282) hx hb dL_leaps_275 (by decide) (fun _ => ?_) (fun q => absurd q c_275)
          refine lv_iconst (v := 1) hx hb dL_leaps_282 (by decide) ?_
          have c_283 : (1 : Int32) = 1 := rfl
          refine lv_icmp_ne (tgt := 290) hx hb dL_leaps_283 (by decide) (fun q => absurd c_283 q) (fun _ => ?_)
          refine lv_iconst (v := 1) hx hb dL_leaps_286 (by decide) ?_
          refine lv_goto (tgt := 291) hx hb dL_leaps_287 (by decide) ?_
          exact W.zret (v := 1) (ty := .boolean) hx hb hr (rfl) (fun t9 ht9 hW9 => ⟨⟨1, u_268, rfl, ⟨rfl, hJ⟩, by rw [ht9]; exact hP, hD⟩, hS.F ht9⟩) hS.2.2 dL_leaps_291
      · skip
        refine lv_iload hx hb dL_leaps_221 (lv_at hl 4 rfl) ?_
        refine top_i (y := 1) rfl ?_
        refine lv_iconst (v := 1) hx hb dL_leaps_223 (by decide) ?_
        have c_224 : (1 : Int32) = 1 := rfl
        refine lv_icmp_eq (tgt := 243) hx hb dL_leaps_224 (by decide) (fun _ => ?_) (fun q => absurd c_224 q)
        refine lv_iload hx hb dL_leaps_243 (lv_at hl 1 rfl) ?_
        have c_245 : ¬ ((nI it) : Int32) < 0 := nI_pos (by omega)
        refine lv_if_lt (tgt := 290) hx hb dL_leaps_245 (by decide) (fun q => absurd q c_245) (fun _ => ?_)
        refine lv_iload hx hb dL_leaps_248 (lv_at hl 0 rfl) ?_
        have c_250 : ¬ ((nI sl) : Int32) < 0 := nI_pos (by omega)
        refine lv_if_lt (tgt := 290) hx hb dL_leaps_250 (by decide) (fun q => absurd q c_250) (fun _ => ?_)
        refine lv_iload hx hb dL_leaps_253 (lv_at hl 0 rfl) ?_
        refine lv_iload hx hb dL_leaps_255 (lv_at hl 13 rfl) ?_
        have c_257 : ¬ ((nI ru) : Int32) < (nI sl) := nI_lt0 (by omega) (by omega) hsl
        refine lv_icmp_gt (tgt := 290) hx hb dL_leaps_257 (by decide) (fun q => absurd q c_257) (fun _ => ?_)
        by_cases hoi : ow = it
        · subst hoi
          refine lv_aload_n hx hb dL_leaps_260 rfl (lv_at hl 9 rfl) ?_
          refine lv_iload hx hb dL_leaps_261 (lv_at hl 2 rfl) ?_
          refine lv_iload hx hb dL_leaps_263 (lv_at hl 1 rfl) ?_
          refine lv_iload hx hb dL_leaps_265 (lv_at hl 13 rfl) ?_
          refine lv_iconst (v := 0) hx hb dL_leaps_267 (by decide) ?_
          refine cB_i hJ.hd CF hK hN hA hS hP hD (b_fewest l D cI cZ cW cJ A X xo S u_152 ow ow ru 0 (by omega) (by omega) (by omega) (by decide) hJ) (cwV 4 hts gL_leaps_X8_fewest rfl rfl rfl (by decide +kernel) ⟨Nat.le_of_ble_eq_true rfl, Nat.le_of_ble_eq_true rfl⟩) (As := [.int (nI ow), .int (nI ow), .int (nI ru), .int 0]) (rest := []) rfl hl.1 rfl (Nat.le_of_ble_eq_true rfl) dL_leaps_268 ⟨Nat.le_of_ble_eq_true rfl, Nat.le_of_ble_eq_true rfl⟩ (fun r_268 u_268 H locs hq hP hD hS => ?_)
          obtain ⟨hrv, hJ⟩ := hq
          subst hrv
          refine top_i (y := 0) d_self ?_
          refine lv_iload hx hb dL_leaps_271 (lv_at hl 2 rfl) ?_
          refine lv_iload hx hb dL_leaps_273 (lv_at hl 1 rfl) ?_
          have c_275 : ((nI ow) : Int32) = (nI ow) := rfl
          refine lv_icmp_ne (tgt := 282) hx hb dL_leaps_275 (by decide) (fun q => absurd c_275 q) (fun _ => ?_)
          refine lv_iconst (v := 0) hx hb dL_leaps_278 (by decide) ?_
          refine lv_goto (tgt := 283) hx hb dL_leaps_279 (by decide) ?_
          have c_283 : (0 : Int32) = 0 := rfl
          refine lv_icmp_ne (tgt := 290) hx hb dL_leaps_283 (by decide) (fun q => absurd c_283 q) (fun _ => ?_)
          refine lv_iconst (v := 1) hx hb dL_leaps_286 (by decide) ?_
          refine lv_goto (tgt := 291) hx hb dL_leaps_287 (by decide) ?_
          exact W.zret (v := 1) (ty := .boolean) hx hb hr (rfl) (fun t9 ht9 hW9 => ⟨⟨1, u_268, rfl, ⟨rfl, hJ⟩, by rw [ht9]; exact hP, hD⟩, hS.F ht9⟩) hS.2.2 dL_leaps_291
        · skip
          refine lv_aload_n hx hb dL_leaps_260 rfl (lv_at hl 9 rfl) ?_
          refine lv_iload hx hb dL_leaps_261 (lv_at hl 2 rfl) ?_
          refine lv_iload hx hb dL_leaps_263 (lv_at hl 1 rfl) ?_
          refine lv_iload hx hb dL_leaps_265 (lv_at hl 13 rfl) ?_
          refine lv_iconst (v := 0) hx hb dL_leaps_267 (by decide) ?_
          refine cB_i hJ.hd CF hK hN hA hS hP hD (b_fewest l D cI cZ cW cJ A X xo S u_152 ow it ru 0 (by omega) (by omega) (by omega) (by decide) hJ) (cwV 4 hts gL_leaps_X8_fewest rfl rfl rfl (by decide +kernel) ⟨Nat.le_of_ble_eq_true rfl, Nat.le_of_ble_eq_true rfl⟩) (As := [.int (nI ow), .int (nI it), .int (nI ru), .int 0]) (rest := []) rfl hl.1 rfl (Nat.le_of_ble_eq_true rfl) dL_leaps_268 ⟨Nat.le_of_ble_eq_true rfl, Nat.le_of_ble_eq_true rfl⟩ (fun r_268 u_268 H locs hq hP hD hS => ?_)
          obtain ⟨hrv, hJ⟩ := hq
          subst hrv
          refine top_i (y := 1) (d_one hol hoi (RS_iff.mpr ⟨ru, Nat.le_refl _, hEv⟩)) ?_
          refine lv_iload hx hb dL_leaps_271 (lv_at hl 2 rfl) ?_
          refine lv_iload hx hb dL_leaps_273 (lv_at hl 1 rfl) ?_
          have c_275 : ¬ ((nI ow) : Int32) = (nI it) := nI_nee (by omega) (by omega) hoi
          refine lv_icmp_ne (tgt := 282) hx hb dL_leaps_275 (by decide) (fun _ => ?_) (fun q => absurd q c_275)
          refine lv_iconst (v := 1) hx hb dL_leaps_282 (by decide) ?_
          have c_283 : (1 : Int32) = 1 := rfl
          refine lv_icmp_ne (tgt := 290) hx hb dL_leaps_283 (by decide) (fun q => absurd c_283 q) (fun _ => ?_)
          refine lv_iconst (v := 1) hx hb dL_leaps_286 (by decide) ?_
          refine lv_goto (tgt := 291) hx hb dL_leaps_287 (by decide) ?_
          exact W.zret (v := 1) (ty := .boolean) hx hb hr (rfl) (fun t9 ht9 hW9 => ⟨⟨1, u_268, rfl, ⟨rfl, hJ⟩, by rw [ht9]; exact hP, hD⟩, hS.F ht9⟩) hS.2.2 dL_leaps_291
