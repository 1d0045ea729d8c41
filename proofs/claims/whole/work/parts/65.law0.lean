/-! both sides told by one value; what each call does to it -/
abbrev GS : Type := KS × (Nat → KS) × Nat × (Nat → KS) × (Nat → Bool) × Nat × (Nat → Int32)
def act (G : GS) (S : KS) : GS := (S, pushH G.2.1 G.2.2.1 G.1, pushN G.2.2.1, G.2.2.2)
def GOK (G : GS) : Prop := Wf G.1 ∧ (∀ i, i < G.2.2.1 → Wf (G.2.1 i)) ∧ (∀ i, i < 2 → G.2.2.2.2.1 i = true → Wf (G.2.2.2.1 i)) ∧ G.2.2.2.2.2.1 ≤ 60 ∧ G.2.2.1 ≤ 6
theorem GOK.ac {G : GS} (h : GOK G) {S : KS} (hS : Wf S) : GOK (act G S) := by
  obtain ⟨h1, h2, h3, h4, h5⟩ := h
  refine ⟨hS, fun i hi => ?_, h3, h4, ?_⟩
  · show Wf (pushH G.2.1 G.2.2.1 G.1 i)
    have hi : i < pushN G.2.2.1 := hi
    unfold pushN at hi
    unfold pushH
    by_cases q : G.2.2.1 < 6
    · rw [if_pos q] at hi ⊢
      by_cases z : i = G.2.2.1
      · rw [if_pos z]; exact h1
      · rw [if_neg z]; exact h2 i (by omega)
    · rw [if_neg q] at hi ⊢
      by_cases z : i = 5
      · rw [if_pos z]; exact h1
      · rw [if_neg z]; exact h2 (i + 1) (by omega)
  · show pushN G.2.2.1 ≤ 6
    unfold pushN
    split <;> omega
abbrev FT : Type := Int32 × Int32 × GS
def fBuild (G : GS) (x y : Int32) : FT := if isCellX x y = true then (0, (buildK G.1 x.toNatClampNeg y.toNatClampNeg).2, act G (buildK G.1 x.toNatClampNeg y.toNatClampNeg).1) else (1, 0, G)
def fSet (G : GS) (k v : Int32) : FT := if isSetX k = true then (if ¬ v < 1 ∧ v ≤ gvI k.toNatClampNeg then (0, setS G.1 k.toNatClampNeg, act G (putSet G.1 k.toNatClampNeg v)) else (2, 0, G)) else (1, 0, G)
def fWalk (G : GS) (d : Int32) : FT := if isSideX d = true then (0, (walkK G.1 d).2, act G (walkK G.1 d).1) else (1, 0, G)
def fLeap (G : GS) (d u : Int32) : FT := if isSideX d = true ∧ isRunX u = true then (0, (leapK G.1 d u.toNatClampNeg).2, act G (leapK G.1 d u.toNatClampNeg).1) else (1, 0, G)
def fPut (G : GS) (x y : Int32) : FT := if isCellX x y = true then (0, (putK G.1 x.toNatClampNeg y.toNatClampNeg).2, act G (putK G.1 x.toNatClampNeg y.toNatClampNeg).1) else (1, 0, G)
def fApp (G : GS) (a : Int32) : FT := if a < 33 ∨ 126 < a then (1, 0, G) else if G.2.2.2.2.2.1 = 60 then (2, 0, G) else (0, nI (G.2.2.2.2.2.1 + 1), (G.1, G.2.1, G.2.2.1, G.2.2.2.1, G.2.2.2.2.1, G.2.2.2.2.2.1 + 1, upd G.2.2.2.2.2.2 G.2.2.2.2.2.1 a))
def fClr (G : GS) : GS := (G.1, G.2.1, G.2.2.1, G.2.2.2.1, G.2.2.2.2.1, 0, G.2.2.2.2.2.2)
def fRun (G : GS) : FT := if dfaE G.2.2.2.2.2.2 G.2.2.2.2.2.1 = 8 then (0, nI (runS G.2.2.2.2.2.2 G.2.2.2.2.2.1 G.1).2, fClr (act G (runS G.2.2.2.2.2.2 G.2.2.2.2.2.1 G.1).1)) else (1, 0, G)
def fKeep (G : GS) (s : Int32) : FT := if isSlotX s = true then (0, nI (blkN G.1.1), (G.1, G.2.1, G.2.2.1, (fun i => if i = s.toNatClampNeg then G.1 else G.2.2.2.1 i), (fun i => if i = s.toNatClampNeg then true else G.2.2.2.2.1 i), G.2.2.2.2.2)) else (1, 0, G)
def fBack (G : GS) (s : Int32) : FT := if isSlotX s = true then (if G.2.2.2.2.1 s.toNatClampNeg = true then (0, nI (blkN (G.2.2.2.1 s.toNatClampNeg).1), act G (G.2.2.2.1 s.toNatClampNeg)) else (2, 0, G)) else (1, 0, G)
def fUndo (G : GS) : FT := if 1 ≤ G.2.2.1 then (0, nI (G.2.2.1 - 1), (G.2.1 (G.2.2.1 - 1), G.2.1, G.2.2.1 - 1, G.2.2.2)) else (1, 0, G)
noncomputable def fCell (G : GS) (x y k : Int32) : Int32 × Int32 := if isCellX x y = true then (if k < 0 ∨ 5 ≤ k then (2, 0) else (0, cellS G.1 x.toNatClampNeg y.toNatClampNeg k.toNatClampNeg)) else (1, 0)
noncomputable def fLedge (G : GS) (a k : Int32) : Int32 × Int32 := if hasX (nS G.1) a = true then (if k < 0 ∨ 6 ≤ k then (2, 0) else (0, ledgeS G.1 a.toNatClampNeg k.toNatClampNeg)) else (1, 0)
noncomputable def fCount (G : GS) (k : Int32) : Int32 × Int32 := if k < 0 ∨ 10 ≤ k then (1, 0) else (0, countS G.1 G.2.2.1 k.toNatClampNeg)
def fSetting (G : GS) (k : Int32) : Int32 × Int32 := if isSetX k = true then (0, setS G.1 k.toNatClampNeg) else (1, 0)
def fArc (G : GS) (t k : Int32) : Int32 × Int32 := if t < 0 ∨ 30 < t ∨ k < 0 ∨ 1 < k then (1, 0) else (0, arcS G.1 t.toNatClampNeg)
def fIf (G : GS) (x y d u k : Int32) : Int32 × Int32 := if isCellX x y = true then (if isSideX d = false ∨ isRunX u = false ∨ k < 0 ∨ 5 ≤ k then (2, 0) else (0, leapS G.1 x.toNatClampNeg y.toNatClampNeg d u.toNatClampNeg k.toNatClampNeg)) else (1, 0)
noncomputable def fSlow (G : GS) (a b : Int32) : Int32 × Int32 := if hasX (nS G.1) a = false ∨ hasX (nS G.1) b = false then (1, 0) else (0, slowS G.1 a.toNatClampNeg b.toNatClampNeg)
noncomputable def fFew (G : GS) (a b u k : Int32) : Int32 × Int32 := if hasX (nS G.1) a = false ∨ hasX (nS G.1) b = false then (1, 0) else if isRunX u = false ∨ k < 0 ∨ 1 < k then (2, 0) else (0, dS G.1 u.toNatClampNeg a.toNatClampNeg b.toNatClampNeg)
noncomputable def fOnly (G : GS) (k : Int32) : Int32 × Int32 := if k < 0 then (1, 0) else (0, onlyS G.1 k)
/-! what stays sound -/
theorem GOK.build {G : GS} (h : GOK G) (x y : Int32) : GOK (fBuild G x y).2.2 := by
  unfold fBuild
  split
  · rename_i q
    obtain ⟨c, r, hc, hr, rfl, rfl⟩ := isCell_nI q
    show GOK (act G _)
    rw [nI_clamp (by omega), nI_clamp (by omega)]
    exact h.ac (Wf_build h.1 hc hr)
  · exact h
theorem GOK.set {G : GS} (h : GOK G) (k v : Int32) : GOK (fSet G k v).2.2 := by
  unfold fSet
  split
  · rename_i q
    obtain ⟨c, hc, rfl⟩ := isSet_nI q
    split
    · rename_i z
      rw [nI_clamp (by omega)] at z
      show GOK (act G (putSet G.1 (nI c).toNatClampNeg v))
      rw [nI_clamp (by omega)]
      exact h.ac (Wf_set h.1 hc z.1 z.2)
    · exact h
  · exact h
theorem GOK.walk {G : GS} (h : GOK G) (d : Int32) : GOK (fWalk G d).2.2 := by
  unfold fWalk
  split
  · exact h.ac (Wf_walk h.1 d)
  · exact h
theorem GOK.leap {G : GS} (h : GOK G) (d u : Int32) : GOK (fLeap G d u).2.2 := by
  unfold fLeap
  split
  · exact h.ac (Wf_leap h.1 d _)
  · exact h
theorem GOK.put {G : GS} (h : GOK G) (x y : Int32) : GOK (fPut G x y).2.2 := by
  unfold fPut
  split
  · rename_i q
    obtain ⟨c, r, hc, hr, rfl, rfl⟩ := isCell_nI q
    show GOK (act G _)
    rw [nI_clamp (by omega), nI_clamp (by omega)]
    exact h.ac (Wf_put h.1 hc hr)
  · exact h
theorem GOK.app {G : GS} (h : GOK G) (a : Int32) : GOK (fApp G a).2.2 := by
  obtain ⟨h1, h2, h3, h4, h5⟩ := h
  unfold fApp
  split
  · exact ⟨h1, h2, h3, h4, h5⟩
  · split
    · exact ⟨h1, h2, h3, h4, h5⟩
    · exact ⟨h1, h2, h3, by show G.2.2.2.2.2.1 + 1 ≤ 60; omega, h5⟩
theorem GOK.clr {G : GS} (h : GOK G) : GOK (fClr G) := ⟨h.1, h.2.1, h.2.2.1, Nat.zero_le _, h.2.2.2.2⟩
theorem GOK.run {G : GS} (h : GOK G) : GOK (fRun G).2.2 := by
  unfold fRun
  split
  · rename_i q
    exact (h.ac (Wf_runK h.2.2.2.1 q _ _ _ _ h.1 (dfa_pos q) rfl)).clr
  · exact h
theorem GOK.keep {G : GS} (h : GOK G) (s : Int32) : GOK (fKeep G s).2.2 := by
  obtain ⟨h1, h2, h3, h4, h5⟩ := h
  unfold fKeep
  split
  · refine ⟨h1, h2, fun i hi q => ?_, h4, h5⟩
    show Wf (if i = s.toNatClampNeg then G.1 else G.2.2.2.1 i)
    have q : (if i = s.toNatClampNeg then true else G.2.2.2.2.1 i) = true := q
    by_cases z : i = s.toNatClampNeg
    · rw [if_pos z]; exact h1
    · rw [if_neg z] at q ⊢; exact h3 i hi q
  · exact ⟨h1, h2, h3, h4, h5⟩
theorem GOK.back {G : GS} (h : GOK G) (s : Int32) : GOK (fBack G s).2.2 := by
  unfold fBack
  split
  · rename_i q
    obtain ⟨c, hc, rfl⟩ := isSlot_nI q
    split
    · rename_i z
      refine h.ac (h.2.2.1 _ ?_ z)
      rw [nI_clamp (by omega)]; exact hc
    · exact h
  · exact h
theorem GOK.undo {G : GS} (h : GOK G) : GOK (fUndo G).2.2 := by
  obtain ⟨h1, h2, h3, h4, h5⟩ := h
  unfold fUndo
  split
  · exact ⟨h2 _ (by omega), fun i hi => h2 i (by have hi : i < G.2.2.1 - 1 := hi; omega), h3, h4, by show G.2.2.1 - 1 ≤ 6; omega⟩
  · exact ⟨h1, h2, h3, h4, h5⟩
/-- the class's object and all that hangs on it -/
def XI (cI cZ cW : ClassId) (xo : Nat) (G : GS) (XB : va_W) : Prop := ∃ (w wb ws hi hv sn kv kt tx tco f mm mro mfi mle mlo re rl rf ro rog rsp rqu rta : Nat) (mk rk : Bool) (ms wc wr wl ww wf qa qb qc qd qe qf qg rs fc fr ft fo fm fs fi rut to tc tr ts tu te twp tp : Int32) (gro gfi gle glo wbl wse glr gog gsp gqu gta : Nat → Int32) (HR SR : va_W),
  XB = oX8 xo w hi sn tx f mm re ro (bI mk) (bI rk) :: oX2 mm mro mfi mle ms mlo :: aI cI mro 100 gro :: aI cI mfi 100 gfi :: aI cI mle 100 gle :: aI cI mlo 200 glo :: oX7 w wb ws wc wr wl ww wf :: aI cI wb 10 wbl :: aI cI ws 3 wse :: oX4 re rs rl rf :: aI cI rl 10000 glr :: oX0 rf fc fr ft fo fm fs fi :: oX5 ro rog rsp rqu rta rut :: aI cI rog 4 gog :: aI cI rsp 400 gsp :: aI cI rqu 100 gqu :: aI cI rta 10000 gta :: oX0 f qa qb qc qd qe qf qg :: oX1 hi (nI G.2.2.1) hv :: oX6 sn kv kt :: oX3 tx (nI G.2.2.2.2.2.1) to tc tr ts tu tco te twp tp :: aI cI tco 60 G.2.2.2.2.2.2 :: (HR ++ SR) ∧
  AbsX G.1 wbl wse wc wr wl ww wf ∧ CachK (blkX wbl) (wse 0) (wse 1) (wse 2) mk rk ms gro gfi gle glo rs glr gog gsp rut gta ∧ HistR cI cW hv G.2.1 G.2.2.1 HR ∧ SnapR cI cZ cW kv kt G.2.2.2.1 G.2.2.2.2.1 SR ∧ TxOK G.2.2.2.2.2.2 G.2.2.2.2.2.1 te twp
section Law65
variable {p : Program} {l : Launch} {e : Env} {R : Room} {s : State} {m : MethodId} {args : Array Value} {below : List Frame} {meth : Method} {c : Code} {H : Heap} {locs : List Loc} {cells slots : Nat} {Q : State → Prop}
variable {cc : ByteArray} {pc : Nat} {ls : Array Slot} {rest st0 : List Value}
variable {y : MethodName} {bytes : ByteArray} {maxL nL mc ms n index : Nat} {ret : Option FieldType} {wsy : List Cond} {rm : Room} {Ts : List Cond} {own C host : String} {b : Addr} {As : List Value} {D : va_G} {ty : List (ClassId × FieldType)} {A : Nat → Prop} {w wc : va_W} {cI cZ cW cJ : ClassId}
theorem openP {a X L HR SR : va_W} (hP : va_P D vwCl (a ++ (X ++ (L ++ (HR ++ SR)))) H) (hD : va_D A (a ++ (X ++ (L ++ (HR ++ SR))))) : va_P D vwCl (a ++ (L ++ ((X ++ HR) ++ SR))) H ∧ va_D A (a ++ (L ++ ((X ++ HR) ++ SR))) := by
  refine perm_PD (List.Perm.append_left _ ?_) hP hD
  refine (List.perm_append_comm (l₁ := X) (l₂ := L ++ (HR ++ SR))).trans ?_
  rw [List.append_assoc]
  refine List.Perm.append_left _ ?_
  rw [List.append_assoc X HR SR]
  exact List.perm_append_comm
theorem closeP {a X L HR SR : va_W} (hP : va_P D vwCl (a ++ (L ++ ((X ++ HR) ++ SR))) H) (hD : va_D A (a ++ (L ++ ((X ++ HR) ++ SR)))) : va_P D vwCl (a ++ (X ++ (L ++ (HR ++ SR)))) H ∧ va_D A (a ++ (X ++ (L ++ (HR ++ SR)))) := by
  refine perm_PD (List.Perm.append_left _ ?_) hP hD
  refine List.Perm.trans ?_ (List.perm_append_comm (l₁ := X) (l₂ := L ++ (HR ++ SR))).symm
  rw [List.append_assoc L]
  refine List.Perm.append_left _ ?_
  rw [List.append_assoc X HR SR]
  exact List.perm_append_comm
/-- a call of what may throw, caught or not -/
theorem cVX_i {S SX : Type} {post : Int32 → S → Prop} {wc' : S → va_W} {wx' : SX → va_W} {PE : SX → String → Prop} {r0 : vw_C} {fs : List Value} {ci q0 : Nat} (hXF : XF A s) (CF : CallFix p m c cc nL s args Ts own) (hK : va_K D vwCl ty s) (hN : NS s) (hA : ∀ q : Nat, s.heap.size ≤ q → A q) (hS : va_S A s.heap H locs) (hC : cutw D A w wc H)
    (hM : vx_Met l y wsy rm (va_Pc (.ref b :: As) (wx D ty A wc)) (va_Qi post (fun u t => wq D A (wc' u) t) A) (XTg D A wx' PE) mc ms A) (cw : CallW R s args own r0.1 index y bytes maxL ret wsy rm mc ms n) (hcl : vwCl[ci]? = some r0) (he : wc[q0]? = some (b, .inr (ci, fs)))
    (hn : As.length = n) (hsize : ls.size = nL) (hstack : st0 = As.reverse ++ .ref b :: rest) (hW : (rest.map fun v => v.category).sum ≤ 8) (hdg : decode cc pc = .ok (.invokevirtual index, 3)) (hf : cells + mc ≤ R.cells ∧ slots + ms ≤ R.slots)
    (kx : ∀ (E : String) (ce : Cell) (q9 : Addr) (u : SX) (H1 : Heap) (locs1 : List Loc), PE u E → va_P D vwCl (wx' u) H1 → va_D A (wx' u) → va_S A s.heap H1 locs1 → H1[q9]? = some ce → ce.vm = .none → s.vm.findClass E = some ce.cls → vx_W p l e R s m args below meth c H1 locs1 (cells + mc) (slots + ms) Q (F0 m pc ls rest) q9)
    (kk : ∀ (r : Int32) (u : S) (H1 : Heap) (locs1 : List Loc), post r u → va_P D vwCl (wc' u) H1 → va_D A (wc' u) → va_S A s.heap H1 locs1 → W p l e R s m args below meth c H1 locs1 (cells + mc) (slots + ms) Q (F0 m (pc + 3) ls (.int r :: rest))) : W p l e R s m args below meth c H locs cells slots Q (F0 m pc ls st0) :=
  vx_calli (vx_runV (g := F0 m pc ls st0) CF hM cw ⟨wx_blind, va_recv hK hC.1 hcl he, fun U hU hW2 => ⟨rfl, wd_of hK hN hA hC.1 hC.2 hS hU hW2, hXF.to hW2 (fun a ha hn => by rw [hU]; exact hS.2.1 a ha hn)⟩⟩ rfl hn hsize hstack (lv_room hW) hdg hf) hS (fun _ _ h => h) (fun _ h => h) (fun _ _ h => h)
    (fun E ce q9 u t H1 locs1 ht _ _ hB _ _ hS1 h1 h2 h3 => kx E ce q9 u H1 locs1 hB.1 (ht ▸ hB.2.1) hB.2.2 hS1 h1 h2 h3)
    (fun r u t H1 locs1 ht _ hp hB _ _ hS1 => kk r u H1 locs1 hp (ht ▸ hB.1) hB.2 hS1)
theorem cVY_i {t0 : Nat} {S SX : Type} {post : Int32 → S → Prop} {wc' : S → va_W} {wx' : SX → va_W} {PE : SX → String → Prop} {r0 : vw_C} {fs : List Value} {ci q0 : Nat} (hZ : va_Z RX8 "GREATEST_VALUES" "[I" (.ref t0) A s s.heap) (hT : va_T .int t0 3 (fun j => .int (gvI j)) A s s.heap) (hXF : XF A s) (CF : CallFix p m c cc nL s args Ts own) (hK : va_K D vwCl ty s) (hN : NS s) (hA : ∀ q : Nat, s.heap.size ≤ q → A q) (hS : va_S A s.heap H locs) (hC : cutw D A w wc H)
    (hM : vx_Met l y wsy rm (va_Pc (.ref b :: As) (wy t0 D ty A wc)) (va_Qi post (fun u t => wq D A (wc' u) t) A) (XTg D A wx' PE) mc ms A) (cw : CallW R s args own r0.1 index y bytes maxL ret wsy rm mc ms n) (hcl : vwCl[ci]? = some r0) (he : wc[q0]? = some (b, .inr (ci, fs)))
    (hn : As.length = n) (hsize : ls.size = nL) (hstack : st0 = As.reverse ++ .ref b :: rest) (hW : (rest.map fun v => v.category).sum ≤ 8) (hdg : decode cc pc = .ok (.invokevirtual index, 3)) (hf : cells + mc ≤ R.cells ∧ slots + ms ≤ R.slots)
    (kx : ∀ (E : String) (ce : Cell) (q9 : Addr) (u : SX) (H1 : Heap) (locs1 : List Loc), PE u E → va_P D vwCl (wx' u) H1 → va_D A (wx' u) → va_S A s.heap H1 locs1 → H1[q9]? = some ce → ce.vm = .none → s.vm.findClass E = some ce.cls → vx_W p l e R s m args below meth c H1 locs1 (cells + mc) (slots + ms) Q (F0 m pc ls rest) q9)
    (kk : ∀ (r : Int32) (u : S) (H1 : Heap) (locs1 : List Loc), post r u → va_P D vwCl (wc' u) H1 → va_D A (wc' u) → va_S A s.heap H1 locs1 → W p l e R s m args below meth c H1 locs1 (cells + mc) (slots + ms) Q (F0 m (pc + 3) ls (.int r :: rest))) : W p l e R s m args below meth c H locs cells slots Q (F0 m pc ls st0) :=
  vx_calli (vx_runV (g := F0 m pc ls st0) CF hM cw ⟨wy_blind, va_recv hK hC.1 hcl he, fun U hU hW2 => ⟨rfl, ⟨wd_of hK hN hA hC.1 hC.2 hS hU hW2, hXF.to hW2 (fun a ha hn => by rw [hU]; exact hS.2.1 a ha hn)⟩, by rw [hU]; exact (va_Z.moved hW2.alike hZ).kept hS.2.1, by rw [hU]; exact (va_T.moved hW2.alike hT).kept hS.2.1⟩⟩ rfl hn hsize hstack (lv_room hW) hdg hf) hS (fun _ _ h => h) (fun _ h => h) (fun _ _ h => h)
    (fun E ce q9 u t H1 locs1 ht _ _ hB _ _ hS1 h1 h2 h3 => kx E ce q9 u H1 locs1 hB.1 (ht ▸ hB.2.1) hB.2.2 hS1 h1 h2 h3)
    (fun r u t H1 locs1 ht _ hp hB _ _ hS1 => kk r u H1 locs1 hp (ht ▸ hB.1) hB.2 hS1)
/-- the law calls what catches -/
theorem cSX_i {t0 : Nat} {S : Type} {post : Int32 → S → Prop} {wc' : S → va_W} {hh : List (Nat × Nat × Nat × Nat)} (hZ : va_Z RX8 "GREATEST_VALUES" "[I" (.ref t0) A s s.heap) (hT : va_T .int t0 3 (fun j => .int (gvI j)) A s s.heap) (hXF : XF A s) (CF : CallFix p m c cc nL s args Ts own) (hK : va_K D vwCl ty s) (hN : NS s) (hA : ∀ q : Nat, s.heap.size ≤ q → A q) (hS : va_S A s.heap H locs) (hC : cutw D A w wc H)
    (hM : vx_Met l y wsy rm (va_Pc As (wy t0 D ty A wc)) (va_Qi post (fun u t => wq D A (wc' u) t) A) (vx_X (fun _ : Unit => False) (fun _ _ _ => False) A) mc ms A) (cw : vx_CSW R s args own index y bytes maxL ret hh wsy rm mc ms n)
    (hn : As.length = n) (hsize : ls.size = nL) (hstack : st0 = As.reverse ++ rest) (hW : (rest.map fun v => v.category).sum ≤ 8) (hdg : decode cc pc = .ok (.invokestatic index, 3)) (hf : cells + mc ≤ R.cells ∧ slots + ms ≤ R.slots)
    (kk : ∀ (r : Int32) (u : S) (H1 : Heap) (locs1 : List Loc), post r u → va_P D vwCl (wc' u) H1 → va_D A (wc' u) → va_S A s.heap H1 locs1 → W p l e R s m args below meth c H1 locs1 (cells + mc) (slots + ms) Q (F0 m (pc + 3) ls (.int r :: rest))) : W p l e R s m args below meth c H locs cells slots Q (F0 m pc ls st0) :=
  vx_calli (vx_runSX (g := F0 m pc ls st0) CF hM cw ⟨wy_blind, fun U hU hW2 => ⟨rfl, ⟨wd_of hK hN hA hC.1 hC.2 hS hU hW2, hXF.to hW2 (fun a ha hn => by rw [hU]; exact hS.2.1 a ha hn)⟩, by rw [hU]; exact (va_Z.moved hW2.alike hZ).kept hS.2.1, by rw [hU]; exact (va_T.moved hW2.alike hT).kept hS.2.1⟩⟩ rfl hn hsize hstack (lv_room hW) hdg hf) hS (fun _ _ h => h) (fun _ h => h) (fun _ _ h => h)
    (fun E ce q9 u t H1 locs1 ht _ hp _ _ _ _ _ _ _ => hp.elim)
    (fun r u t H1 locs1 ht _ hp hB _ _ hS1 => kk r u H1 locs1 hp (ht ▸ hB.1) hB.2 hS1)
end Law65
theorem CachK.upd {B B' : Int32 → Int32 → Bool} {a f s : Int32} {mk rk mk' rk' : Bool} {ms : Int32} {ro fi le lo : Nat → Int32} {rs : Int32} {lr og sp : Nat → Int32} {rt : Int32} {ta : Nat → Int32} (h : CachK B a f s mk rk ms ro fi le lo rs lr og sp rt ta) (q : (mk' = mk ∧ rk' = rk ∧ B' = B) ∨ (mk' = false ∧ rk' = false)) : CachK B' a f s mk' rk' ms ro fi le lo rs lr og sp rt ta := by
  rcases q with ⟨rfl, rfl, rfl⟩ | ⟨rfl, rfl⟩
  · exact h
  · exact CachK.nil
theorem CachK.put {B : Int32 → Int32 → Bool} {a f s : Int32} {mk rk mk' : Bool} {ms ms' : Int32} {ro fi le lo ro' fi' le' lo' : Nat → Int32} {rs : Int32} {lr og sp : Nat → Int32} {rt : Int32} {ta : Nat → Int32} (h : CachK B a f s mk rk ms ro fi le lo rs lr og sp rt ta) (h1 : mk' = true → MapOK B ms' ro' fi' le' lo') (h2 : mk = true → mk' = true) : CachK B a f s mk' rk ms' ro' fi' le' lo' rs lr og sp rt ta :=
  ⟨h1, fun q => ⟨h2 (h.2 q).1, (h.2 q).2⟩⟩
