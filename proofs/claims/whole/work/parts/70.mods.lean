/-! the reference's answers, told by the value of both sides -/
def MI (G : GS) (hn tn : Nat) (gt gs gv gl gk : Nat → Int32) : Prop := AbsM G.1 gs ∧ HistM G.2.1 hn gv ∧ SlM G.2.2.2.1 G.2.2.2.2.1 gl gk ∧ hn = G.2.2.1 ∧ tn = G.2.2.2.2.2.1 ∧ gt = G.2.2.2.2.2.2
theorem q_build {G : GS} {r9 : Int32} {xc xr : Int32} {hn tn : Nat} {gt gs gv gl gk : Nat → Int32} {u : Int32 × Nat × (Nat → Int32) × (Nat → Int32)} (h : (isCellX xc xr = false ∧ u = (1, hn, gs, gv)) ∨ (isCellX xc xr = true ∧ u.1 = 0 ∧ u.2.1 = pushN hn ∧ r9 = (buildK G.1 xc.toNatClampNeg xr.toNatClampNeg).2 ∧ AbsM (buildK G.1 xc.toNatClampNeg xr.toNatClampNeg).1 u.2.2.1 ∧ HistM (pushH G.2.1 hn G.1) (pushN hn) u.2.2.2)) (hM : MI G hn tn gt gs gv gl gk) : u.1 = (fBuild G xc xr).1 ∧ ((fBuild G xc xr).1 = 0 → r9 = (fBuild G xc xr).2.1) ∧ MI (fBuild G xc xr).2.2 u.2.1 tn gt u.2.2.1 u.2.2.2 gl gk := by
  obtain ⟨hA, hH, hSl, rfl, rfl, rfl⟩ := hM
  rcases h with ⟨c, rfl⟩ | ⟨c, e1, e2, e3, e4, e5⟩
  · rw [show fBuild G xc xr = (1, 0, G) from if_neg (by rw [c]; decide)]; exact ⟨rfl, fun q => absurd (show (1 : Int32) = 0 from q) (by decide), hA, hH, hSl, rfl, rfl, rfl⟩
  · rw [show fBuild G xc xr = (0, (buildK G.1 xc.toNatClampNeg xr.toNatClampNeg).2, act G (buildK G.1 xc.toNatClampNeg xr.toNatClampNeg).1) from if_pos c]; exact ⟨e1, fun _ => e3, e4, by rw [e2]; exact e5, hSl, e2, rfl, rfl⟩
theorem q_set {G : GS} {r9 : Int32} {xk xv : Int32} {hn tn : Nat} {gt gs gv gl gk : Nat → Int32} {u : Int32 × Nat × (Nat → Int32) × (Nat → Int32)} (h : (isSetX xk = false ∧ u = (1, hn, gs, gv)) ∨ (∃ k9 : Nat, k9 < 3 ∧ xk = nI k9 ∧ (xv < 1 ∨ gvI k9 < xv) ∧ u = (2, hn, gs, gv)) ∨ (∃ k9 : Nat, k9 < 3 ∧ xk = nI k9 ∧ ¬ xv < 1 ∧ xv ≤ gvI k9 ∧ u.1 = 0 ∧ u.2.1 = pushN hn ∧ r9 = setS G.1 k9 ∧ AbsM (putSet G.1 k9 xv) u.2.2.1 ∧ HistM (pushH G.2.1 hn G.1) (pushN hn) u.2.2.2)) (hM : MI G hn tn gt gs gv gl gk) : u.1 = (fSet G xk xv).1 ∧ ((fSet G xk xv).1 = 0 → r9 = (fSet G xk xv).2.1) ∧ MI (fSet G xk xv).2.2 u.2.1 tn gt u.2.2.1 u.2.2.2 gl gk := by
  obtain ⟨hA, hH, hSl, rfl, rfl, rfl⟩ := hM
  rcases h with ⟨c, rfl⟩ | ⟨k9, hk9, e9, hE, rfl⟩ | ⟨k9, hk9, e9, h1, h2, e1, e2, e3, e4, e5⟩
  · rw [show fSet G xk xv = (1, 0, G) from if_neg (by rw [c]; decide)]; exact ⟨rfl, fun q => absurd (show (1 : Int32) = 0 from q) (by decide), hA, hH, hSl, rfl, rfl, rfl⟩
  · rw [e9, fSet_2 hk9 hE]; exact ⟨rfl, fun q => absurd (show (2 : Int32) = 0 from q) (by decide), hA, hH, hSl, rfl, rfl, rfl⟩
  · rw [e9, fSet_0 hk9 h1 h2]; exact ⟨e1, fun _ => e3, e4, by rw [e2]; exact e5, hSl, e2, rfl, rfl⟩
theorem q_walk {G : GS} {r9 : Int32} {xd : Int32} {hn tn : Nat} {gt gs gv gl gk : Nat → Int32} {u : Int32 × Nat × (Nat → Int32) × (Nat → Int32)} (h : (isSideX xd = false ∧ u = (1, hn, gs, gv)) ∨ (isSideX xd = true ∧ u.1 = 0 ∧ u.2.1 = pushN hn ∧ r9 = (walkK G.1 xd).2 ∧ AbsM (walkK G.1 xd).1 u.2.2.1 ∧ HistM (pushH G.2.1 hn G.1) (pushN hn) u.2.2.2)) (hM : MI G hn tn gt gs gv gl gk) : u.1 = (fWalk G xd).1 ∧ ((fWalk G xd).1 = 0 → r9 = (fWalk G xd).2.1) ∧ MI (fWalk G xd).2.2 u.2.1 tn gt u.2.2.1 u.2.2.2 gl gk := by
  obtain ⟨hA, hH, hSl, rfl, rfl, rfl⟩ := hM
  rcases h with ⟨c, rfl⟩ | ⟨c, e1, e2, e3, e4, e5⟩
  · rw [show fWalk G xd = (1, 0, G) from if_neg (by rw [c]; decide)]; exact ⟨rfl, fun q => absurd (show (1 : Int32) = 0 from q) (by decide), hA, hH, hSl, rfl, rfl, rfl⟩
  · rw [show fWalk G xd = (0, (walkK G.1 xd).2, act G (walkK G.1 xd).1) from if_pos c]; exact ⟨e1, fun _ => e3, e4, by rw [e2]; exact e5, hSl, e2, rfl, rfl⟩
theorem q_leap {G : GS} {r9 : Int32} {xd xu : Int32} {hn tn : Nat} {gt gs gv gl gk : Nat → Int32} {vc vr vt vo : Int32} {vm : Bool} {u : Int32 × Nat × (Nat → Int32) × (Nat → Int32) × (Int32 × Int32 × Int32 × Int32 × Bool)} (h : ((isSideX xd = false ∨ isRunX xu = false) ∧ u = (1, hn, gs, gv, (vc, vr, vt, vo, vm))) ∨ (isSideX xd = true ∧ isRunX xu = true ∧ u.1 = 0 ∧ u.2.1 = pushN hn ∧ r9 = (leapK G.1 xd xu.toNatClampNeg).2 ∧ AbsM (leapK G.1 xd xu.toNatClampNeg).1 u.2.2.1 ∧ HistM (pushH G.2.1 hn G.1) (pushN hn) u.2.2.2.1)) (hM : MI G hn tn gt gs gv gl gk) : u.1 = (fLeap G xd xu).1 ∧ ((fLeap G xd xu).1 = 0 → r9 = (fLeap G xd xu).2.1) ∧ MI (fLeap G xd xu).2.2 u.2.1 tn gt u.2.2.1 u.2.2.2.1 gl gk := by
  obtain ⟨hA, hH, hSl, rfl, rfl, rfl⟩ := hM
  rcases h with ⟨c, rfl⟩ | ⟨c1, c2, e1, e2, e3, e4, e5⟩
  · rw [show fLeap G xd xu = (1, 0, G) from if_neg (fun q => by rcases c with h | h; (rw [h] at q; cases q.1); (rw [h] at q; cases q.2))]; exact ⟨rfl, fun q => absurd (show (1 : Int32) = 0 from q) (by decide), hA, hH, hSl, rfl, rfl, rfl⟩
  · rw [show fLeap G xd xu = (0, (leapK G.1 xd xu.toNatClampNeg).2, act G (leapK G.1 xd xu.toNatClampNeg).1) from if_pos ⟨c1, c2⟩]; exact ⟨e1, fun _ => e3, e4, by rw [e2]; exact e5, hSl, e2, rfl, rfl⟩
theorem q_put {G : GS} {r9 : Int32} {xc xr : Int32} {hn tn : Nat} {gt gs gv gl gk gg gi gw : Nat → Int32} {vg : Int32} {u : Int32 × Nat × (Nat → Int32) × (Nat → Int32) × Int32 × (Nat → Int32) × (Nat → Int32) × (Nat → Int32)} (h : (isCellX xc xr = false ∧ u = (1, hn, gs, gv, vg, gg, gi, gw)) ∨ (isCellX xc xr = true ∧ u.1 = 0 ∧ u.2.1 = pushN hn ∧ r9 = (putK G.1 xc.toNatClampNeg xr.toNatClampNeg).2 ∧ AbsM (putK G.1 xc.toNatClampNeg xr.toNatClampNeg).1 u.2.2.1 ∧ HistM (pushH G.2.1 hn G.1) (pushN hn) u.2.2.2.1)) (hM : MI G hn tn gt gs gv gl gk) : u.1 = (fPut G xc xr).1 ∧ ((fPut G xc xr).1 = 0 → r9 = (fPut G xc xr).2.1) ∧ MI (fPut G xc xr).2.2 u.2.1 tn gt u.2.2.1 u.2.2.2.1 gl gk := by
  obtain ⟨hA, hH, hSl, rfl, rfl, rfl⟩ := hM
  rcases h with ⟨c, rfl⟩ | ⟨c, e1, e2, e3, e4, e5⟩
  · rw [show fPut G xc xr = (1, 0, G) from if_neg (by rw [c]; decide)]; exact ⟨rfl, fun q => absurd (show (1 : Int32) = 0 from q) (by decide), hA, hH, hSl, rfl, rfl, rfl⟩
  · rw [show fPut G xc xr = (0, (putK G.1 xc.toNatClampNeg xr.toNatClampNeg).2, act G (putK G.1 xc.toNatClampNeg xr.toNatClampNeg).1) from if_pos c]; exact ⟨e1, fun _ => e3, e4, by rw [e2]; exact e5, hSl, e2, rfl, rfl⟩
theorem q_append {G : GS} {r9 : Int32} {xa : Int32} {hn tn : Nat} {gt gs gv gl gk : Nat → Int32} {u : Int32 × Nat × (Nat → Int32)} (h : ((xa < 33 ∨ 126 < xa) ∧ u = (1, tn, gt)) ∨ (¬ xa < 33 ∧ ¬ 126 < xa ∧ tn = 60 ∧ u = (2, tn, gt)) ∨ (¬ xa < 33 ∧ ¬ 126 < xa ∧ tn < 60 ∧ u = (0, tn + 1, upd gt tn xa) ∧ r9 = nI (tn + 1))) (hM : MI G hn tn gt gs gv gl gk) : u.1 = (fApp G xa).1 ∧ ((fApp G xa).1 = 0 → r9 = (fApp G xa).2.1) ∧ MI (fApp G xa).2.2 hn u.2.1 u.2.2 gs gv gl gk := by
  obtain ⟨hA, hH, hSl, rfl, rfl, rfl⟩ := hM
  rcases h with ⟨c, rfl⟩ | ⟨c1, c2, c3, rfl⟩ | ⟨c1, c2, c3, rfl, e3⟩
  · rw [show fApp G xa = (1, 0, G) from if_pos c]; exact ⟨rfl, fun q => absurd (show (1 : Int32) = 0 from q) (by decide), hA, hH, hSl, rfl, rfl, rfl⟩
  · rw [show fApp G xa = (2, 0, G) from (if_neg (fun q => q.elim c1 c2)).trans (if_pos c3)]; exact ⟨rfl, fun q => absurd (show (2 : Int32) = 0 from q) (by decide), hA, hH, hSl, rfl, rfl, rfl⟩
  · rw [show fApp G xa = (0, nI (G.2.2.2.2.2.1 + 1), (G.1, G.2.1, G.2.2.1, G.2.2.2.1, G.2.2.2.2.1, G.2.2.2.2.2.1 + 1, upd G.2.2.2.2.2.2 G.2.2.2.2.2.1 xa)) from (if_neg (fun q => q.elim c1 c2)).trans (if_neg (Nat.ne_of_lt c3))]; exact ⟨rfl, fun _ => e3, hA, hH, hSl, rfl, rfl, rfl⟩
theorem q_run {G : GS} {r9 : Int32} {hn tn : Nat} {gt gs gv gl gk : Nat → Int32} {u : Int32 × Nat × Nat × (Nat → Int32) × (Nat → Int32) × (Int32 × Int32 × Int32 × Int32 × Int32) × (Int32 × Int32 × Int32 × Int32 × Bool)} (h : (¬ dfaE gt tn = 8 ∧ u.1 = 1 ∧ u.2.1 = tn ∧ u.2.2.1 = hn ∧ u.2.2.2.1 = gs ∧ u.2.2.2.2.1 = gv) ∨ (dfaE gt tn = 8 ∧ u.1 = 0 ∧ u.2.1 = 0 ∧ u.2.2.1 = pushN hn ∧ r9 = nI (runS gt tn G.1).2 ∧ AbsM (runS gt tn G.1).1 u.2.2.2.1 ∧ HistM (pushH G.2.1 hn G.1) (pushN hn) u.2.2.2.2.1)) (hM : MI G hn tn gt gs gv gl gk) : u.1 = (fRun G).1 ∧ ((fRun G).1 = 0 → r9 = (fRun G).2.1) ∧ MI (fRun G).2.2 u.2.2.1 u.2.1 gt u.2.2.2.1 u.2.2.2.2.1 gl gk := by
  obtain ⟨hA, hH, hSl, rfl, rfl, rfl⟩ := hM
  rcases h with ⟨c, e1, e2, e3, e4, e5⟩ | ⟨c, e1, e2, e3, e4, e5, e6⟩
  · rw [show fRun G = (1, 0, G) from if_neg c, e1, e2, e3, e4, e5]; exact ⟨rfl, fun q => absurd (show (1 : Int32) = 0 from q) (by decide), hA, hH, hSl, rfl, rfl, rfl⟩
  · rw [show fRun G = (0, nI (runS G.2.2.2.2.2.2 G.2.2.2.2.2.1 G.1).2, fClr (act G (runS G.2.2.2.2.2.2 G.2.2.2.2.2.1 G.1).1)) from if_pos c]; exact ⟨e1, fun _ => e4, e5, by rw [e3]; exact e6, hSl, e3, e2, rfl⟩
theorem q_keep {G : GS} {r9 : Int32} {xs : Int32} {hn tn : Nat} {gt gs gv gl gk : Nat → Int32} {u : Int32 × (Nat → Int32) × (Nat → Int32)} (h : (isSlotX xs = false ∧ u = (1, gl, gk)) ∨ (isSlotX xs = true ∧ u.1 = 0 ∧ r9 = nI (blkN G.1.1) ∧ SlM (fun i => if i = xs.toNatClampNeg then G.1 else G.2.2.2.1 i) (fun i => if i = xs.toNatClampNeg then true else G.2.2.2.2.1 i) u.2.1 u.2.2)) (hM : MI G hn tn gt gs gv gl gk) : u.1 = (fKeep G xs).1 ∧ ((fKeep G xs).1 = 0 → r9 = (fKeep G xs).2.1) ∧ MI (fKeep G xs).2.2 hn tn gt gs gv u.2.1 u.2.2 := by
  obtain ⟨hA, hH, hSl, rfl, rfl, rfl⟩ := hM
  rcases h with ⟨c, rfl⟩ | ⟨c, e1, e2, e3⟩
  · rw [show fKeep G xs = (1, 0, G) from if_neg (by rw [c]; decide)]; exact ⟨rfl, fun q => absurd (show (1 : Int32) = 0 from q) (by decide), hA, hH, hSl, rfl, rfl, rfl⟩
  · rw [show fKeep G xs = (0, nI (blkN G.1.1), (G.1, G.2.1, G.2.2.1, (fun i => if i = xs.toNatClampNeg then G.1 else G.2.2.2.1 i), (fun i => if i = xs.toNatClampNeg then true else G.2.2.2.2.1 i), G.2.2.2.2.2)) from if_pos c]; exact ⟨e1, fun _ => e2, hA, hH, e3, rfl, rfl, rfl⟩
theorem q_goBack {G : GS} {r9 : Int32} {xs : Int32} {hn tn : Nat} {gt gs gv gl gk : Nat → Int32} {u : Int32 × Nat × (Nat → Int32) × (Nat → Int32)} (h : (isSlotX xs = false ∧ u = (1, hn, gs, gv)) ∨ (isSlotX xs = true ∧ G.2.2.2.2.1 xs.toNatClampNeg = false ∧ u = (2, hn, gs, gv)) ∨ (isSlotX xs = true ∧ G.2.2.2.2.1 xs.toNatClampNeg = true ∧ u.1 = 0 ∧ u.2.1 = pushN hn ∧ r9 = nI (blkN (G.2.2.2.1 xs.toNatClampNeg).1) ∧ AbsM (G.2.2.2.1 xs.toNatClampNeg) u.2.2.1 ∧ HistM (pushH G.2.1 hn G.1) (pushN hn) u.2.2.2)) (hM : MI G hn tn gt gs gv gl gk) : u.1 = (fBack G xs).1 ∧ ((fBack G xs).1 = 0 → r9 = (fBack G xs).2.1) ∧ MI (fBack G xs).2.2 u.2.1 tn gt u.2.2.1 u.2.2.2 gl gk := by
  obtain ⟨hA, hH, hSl, rfl, rfl, rfl⟩ := hM
  rcases h with ⟨c, rfl⟩ | ⟨c, c2, rfl⟩ | ⟨c, c2, e1, e2, e3, e4, e5⟩
  · rw [show fBack G xs = (1, 0, G) from if_neg (by rw [c]; decide)]; exact ⟨rfl, fun q => absurd (show (1 : Int32) = 0 from q) (by decide), hA, hH, hSl, rfl, rfl, rfl⟩
  · rw [show fBack G xs = (2, 0, G) from (if_pos c).trans (if_neg (by rw [c2]; decide))]; exact ⟨rfl, fun q => absurd (show (2 : Int32) = 0 from q) (by decide), hA, hH, hSl, rfl, rfl, rfl⟩
  · rw [show fBack G xs = (0, nI (blkN (G.2.2.2.1 xs.toNatClampNeg).1), act G (G.2.2.2.1 xs.toNatClampNeg)) from (if_pos c).trans (if_pos c2)]; exact ⟨e1, fun _ => e3, e4, by rw [e2]; exact e5, hSl, e2, rfl, rfl⟩
theorem q_undo {G : GS} {r9 : Int32} {hn tn : Nat} {gt gs gv gl gk : Nat → Int32} {u : Int32 × Nat × (Nat → Int32)} (h : (hn = 0 ∧ u = (1, hn, gs)) ∨ (1 ≤ hn ∧ u.1 = 0 ∧ u.2.1 = hn - 1 ∧ r9 = nI (hn - 1) ∧ AbsM (G.2.1 (hn - 1)) u.2.2)) (hM : MI G hn tn gt gs gv gl gk) : u.1 = (fUndo G).1 ∧ ((fUndo G).1 = 0 → r9 = (fUndo G).2.1) ∧ MI (fUndo G).2.2 u.2.1 tn gt u.2.2 gv gl gk := by
  obtain ⟨hA, hH, hSl, rfl, rfl, rfl⟩ := hM
  rcases h with ⟨c, rfl⟩ | ⟨c, e1, e2, e3, e4⟩
  · rw [show fUndo G = (1, 0, G) from if_neg (by omega)]; exact ⟨rfl, fun q => absurd (show (1 : Int32) = 0 from q) (by decide), hA, hH, hSl, rfl, rfl, rfl⟩
  · rw [show fUndo G = (0, nI (G.2.2.1 - 1), (G.2.1 (G.2.2.1 - 1), G.2.1, G.2.2.1 - 1, G.2.2.2)) from if_pos c]; exact ⟨e1, fun _ => e3, e4, by rw [e2]; exact hH.pop, hSl, e2, rfl, rfl⟩
theorem q_cellOf {G : GS} {r9 : Int32} {xc xr xk : Int32} {hn tn : Nat} {gt gs gv gl gk : Nat → Int32} {u : Int32 × Int32 × (Nat → Int32) × (Nat → Int32) × (Nat → Int32) × (Nat → Int32) × (Nat → Int32) × (Nat → Int32) × Int32 × Int32 × Int32 × Int32 × Bool} (h : (isCellX xc xr = false ∧ u.1 = 1) ∨ (isCellX xc xr = true ∧ (xk < 0 ∨ 5 ≤ xk) ∧ u.1 = 2) ∨ (isCellX xc xr = true ∧ ∃ k9 : Nat, k9 < 5 ∧ xk = nI k9 ∧ u.1 = 0 ∧ r9 = cellS G.1 xc.toNatClampNeg xr.toNatClampNeg k9)) (hM : MI G hn tn gt gs gv gl gk) : u.1 = (fCell G xc xr xk).1 ∧ ((fCell G xc xr xk).1 = 0 → r9 = (fCell G xc xr xk).2) := by
  obtain ⟨hA, hH, hSl, rfl, rfl, rfl⟩ := hM
  rcases h with ⟨c, e1⟩ | ⟨c, c2, e1⟩ | ⟨c, k9, hk9, e9, e1, e2⟩
  · rw [show fCell G xc xr xk = (1, 0) from if_neg (by rw [c]; decide)]; exact ⟨e1, fun q => absurd q (by decide)⟩
  · rw [show fCell G xc xr xk = (2, 0) from (if_pos c).trans (if_pos c2)]; exact ⟨e1, fun q => absurd q (by decide)⟩
  · rw [e9, fCell_0 c hk9]; exact ⟨e1, fun _ => e2⟩
theorem q_ledgeOf {G : GS} {r9 : Int32} {xl xk : Int32} {hn tn : Nat} {gt gs gv gl gk : Nat → Int32} {u : Int32 × Int32 × (Nat → Int32) × (Nat → Int32) × (Nat → Int32) × (Nat → Int32) × (Nat → Int32) × (Nat → Int32) × Int32 × Int32 × Int32 × Int32 × Bool} (h : (hasX (nS G.1) xl = false ∧ u.1 = 1) ∨ (hasX (nS G.1) xl = true ∧ (xk < 0 ∨ 6 ≤ xk) ∧ u.1 = 2) ∨ (∃ a9 k9 : Nat, a9 < nS G.1 ∧ k9 < 6 ∧ xl = nI a9 ∧ xk = nI k9 ∧ u.1 = 0 ∧ r9 = ledgeS G.1 a9 k9)) (hM : MI G hn tn gt gs gv gl gk) : u.1 = (fLedge G xl xk).1 ∧ ((fLedge G xl xk).1 = 0 → r9 = (fLedge G xl xk).2) := by
  obtain ⟨hA, hH, hSl, rfl, rfl, rfl⟩ := hM
  rcases h with ⟨c, e1⟩ | ⟨c, c2, e1⟩ | ⟨a9, k9, ha9, hk9, e8, e9, e1, e2⟩
  · rw [show fLedge G xl xk = (1, 0) from if_neg (by rw [c]; decide)]; exact ⟨e1, fun q => absurd q (by decide)⟩
  · rw [show fLedge G xl xk = (2, 0) from (if_pos c).trans (if_pos c2)]; exact ⟨e1, fun q => absurd q (by decide)⟩
  · rw [e8, e9, fLedge_0 ha9 hk9]; exact ⟨e1, fun _ => e2⟩
theorem q_count {G : GS} {r9 : Int32} {xk : Int32} {hn tn : Nat} {gt gs gv gl gk : Nat → Int32} {u : Int32 × Int32 × (Nat → Int32) × (Nat → Int32) × (Nat → Int32) × (Nat → Int32) × (Nat → Int32) × (Nat → Int32) × Int32 × Int32 × Int32 × Int32 × Bool} (h : ((xk < 0 ∨ 10 ≤ xk) ∧ u.1 = 1) ∨ (∃ k9 : Nat, k9 < 10 ∧ xk = nI k9 ∧ u.1 = 0 ∧ r9 = countS G.1 hn k9)) (hM : MI G hn tn gt gs gv gl gk) : u.1 = (fCount G xk).1 ∧ ((fCount G xk).1 = 0 → r9 = (fCount G xk).2) := by
  obtain ⟨hA, hH, hSl, rfl, rfl, rfl⟩ := hM
  rcases h with ⟨c, e1⟩ | ⟨k9, hk9, e9, e1, e2⟩
  · rw [show fCount G xk = (1, 0) from if_pos c]; exact ⟨e1, fun q => absurd q (by decide)⟩
  · rw [e9, fCount_0 hk9]; exact ⟨e1, fun _ => e2⟩
theorem q_setting {G : GS} {r9 : Int32} {xk : Int32} {hn tn : Nat} {gt gs gv gl gk : Nat → Int32} {u : Int32 × Int32 × (Nat → Int32) × (Nat → Int32) × (Nat → Int32) × (Nat → Int32) × (Nat → Int32) × (Nat → Int32) × Int32 × Int32 × Int32 × Int32 × Bool} (h : (isSetX xk = false ∧ u.1 = 1) ∨ (isSetX xk = true ∧ u.1 = 0 ∧ r9 = setS G.1 xk.toNatClampNeg)) (hM : MI G hn tn gt gs gv gl gk) : u.1 = (fSetting G xk).1 ∧ ((fSetting G xk).1 = 0 → r9 = (fSetting G xk).2) := by
  obtain ⟨hA, hH, hSl, rfl, rfl, rfl⟩ := hM
  rcases h with ⟨c, e1⟩ | ⟨c, e1, e2⟩
  · rw [show fSetting G xk = (1, 0) from if_neg (by rw [c]; decide)]; exact ⟨e1, fun q => absurd q (by decide)⟩
  · rw [show fSetting G xk = (0, setS G.1 xk.toNatClampNeg) from if_pos c]; exact ⟨e1, fun _ => e2⟩
theorem q_arc {G : GS} {r9 : Int32} {xt xk : Int32} {hn tn : Nat} {gt gs gv gl gk : Nat → Int32} {u : Int32 × Int32 × (Nat → Int32) × (Nat → Int32) × (Nat → Int32) × (Nat → Int32) × (Nat → Int32) × (Nat → Int32) × Int32 × Int32 × Int32 × Int32 × Bool} (h : ((xt < 0 ∨ 30 < xt ∨ xk < 0 ∨ 1 < xk) ∧ u.1 = 1) ∨ (∃ t8 k9 : Nat, t8 ≤ 30 ∧ k9 ≤ 1 ∧ xt = nI t8 ∧ xk = nI k9 ∧ u.1 = 0 ∧ r9 = arcS G.1 t8)) (hM : MI G hn tn gt gs gv gl gk) : u.1 = (fArc G xt xk).1 ∧ ((fArc G xt xk).1 = 0 → r9 = (fArc G xt xk).2) := by
  obtain ⟨hA, hH, hSl, rfl, rfl, rfl⟩ := hM
  rcases h with ⟨c, e1⟩ | ⟨t8, k9, ht8, hk9, e8, e9, e1, e2⟩
  · rw [show fArc G xt xk = (1, 0) from if_pos c]; exact ⟨e1, fun q => absurd q (by decide)⟩
  · rw [e8, e9, fArc_0 ht8 hk9]; exact ⟨e1, fun _ => e2⟩
theorem q_ifLeapt {G : GS} {r9 : Int32} {xc xr xd xu xk : Int32} {hn tn : Nat} {gt gs gv gl gk : Nat → Int32} {u : Int32 × Int32 × (Nat → Int32) × (Nat → Int32) × (Nat → Int32) × (Nat → Int32) × (Nat → Int32) × (Nat → Int32) × Int32 × Int32 × Int32 × Int32 × Bool} (h : (isCellX xc xr = false ∧ u.1 = 1) ∨ (isCellX xc xr = true ∧ (isSideX xd = false ∨ isRunX xu = false ∨ xk < 0 ∨ 5 ≤ xk) ∧ u.1 = 2) ∨ (isCellX xc xr = true ∧ isSideX xd = true ∧ isRunX xu = true ∧ ∃ k9 : Nat, k9 < 5 ∧ xk = nI k9 ∧ u.1 = 0 ∧ r9 = leapS G.1 xc.toNatClampNeg xr.toNatClampNeg xd xu.toNatClampNeg k9)) (hM : MI G hn tn gt gs gv gl gk) : u.1 = (fIf G xc xr xd xu xk).1 ∧ ((fIf G xc xr xd xu xk).1 = 0 → r9 = (fIf G xc xr xd xu xk).2) := by
  obtain ⟨hA, hH, hSl, rfl, rfl, rfl⟩ := hM
  rcases h with ⟨c, e1⟩ | ⟨c, c2, e1⟩ | ⟨c, c2, c3, k9, hk9, e9, e1, e2⟩
  · rw [show fIf G xc xr xd xu xk = (1, 0) from if_neg (by rw [c]; decide)]; exact ⟨e1, fun q => absurd q (by decide)⟩
  · rw [show fIf G xc xr xd xu xk = (2, 0) from (if_pos c).trans (if_pos c2)]; exact ⟨e1, fun q => absurd q (by decide)⟩
  · obtain ⟨ac, ar, hac, har, f1, f2⟩ := isCell_nI c
    obtain ⟨ak, hak, f3⟩ := isRun_nI c3
    rw [f1, f2] at c
    rw [f3] at c3
    rw [f1, f2, f3, nI_clamp (by omega), nI_clamp (by omega), nI_clamp (by omega)] at e2
    rw [f1, f2, f3, e9, fIf_0 hac har c c2 c3 hak hk9]; exact ⟨e1, fun _ => e2⟩
theorem q_slowest {G : GS} {r9 : Int32} {xa xb : Int32} {hn tn : Nat} {gt gs gv gl gk : Nat → Int32} {u : Int32 × Int32 × (Nat → Int32) × (Nat → Int32) × (Nat → Int32) × (Nat → Int32) × (Nat → Int32) × (Nat → Int32) × Int32 × Int32 × Int32 × Int32 × Bool} (h : ((hasX (nS G.1) xa = false ∨ hasX (nS G.1) xb = false) ∧ u.1 = 1) ∨ (∃ a9 b9 : Nat, a9 < nS G.1 ∧ b9 < nS G.1 ∧ xa = nI a9 ∧ xb = nI b9 ∧ u.1 = 0 ∧ r9 = slowS G.1 a9 b9)) (hM : MI G hn tn gt gs gv gl gk) : u.1 = (fSlow G xa xb).1 ∧ ((fSlow G xa xb).1 = 0 → r9 = (fSlow G xa xb).2) := by
  obtain ⟨hA, hH, hSl, rfl, rfl, rfl⟩ := hM
  rcases h with ⟨c, e1⟩ | ⟨a9, b9, ha9, hb9, e8, e9, e1, e2⟩
  · rw [show fSlow G xa xb = (1, 0) from if_pos c]; exact ⟨e1, fun q => absurd q (by decide)⟩
  · rw [e8, e9, fSlow_0 ha9 hb9]; exact ⟨e1, fun _ => e2⟩
theorem q_fewest {G : GS} {r9 : Int32} {xa xb xu xk : Int32} {hn tn : Nat} {gt gs gv gl gk : Nat → Int32} {u : Int32 × Int32 × (Nat → Int32) × (Nat → Int32) × (Nat → Int32) × (Nat → Int32) × (Nat → Int32) × (Nat → Int32) × Int32 × Int32 × Int32 × Int32 × Bool} (h : ((hasX (nS G.1) xa = false ∨ hasX (nS G.1) xb = false) ∧ u.1 = 1) ∨ (hasX (nS G.1) xa = true ∧ hasX (nS G.1) xb = true ∧ (isRunX xu = false ∨ xk < 0 ∨ 1 < xk) ∧ u.1 = 2) ∨ (∃ a9 b9 k9 : Nat, a9 < nS G.1 ∧ b9 < nS G.1 ∧ k9 ≤ 3 ∧ xa = nI a9 ∧ xb = nI b9 ∧ xu = nI k9 ∧ ¬ xk < 0 ∧ xk ≤ 1 ∧ u.1 = 0 ∧ r9 = dS G.1 k9 a9 b9)) (hM : MI G hn tn gt gs gv gl gk) : u.1 = (fFew G xa xb xu xk).1 ∧ ((fFew G xa xb xu xk).1 = 0 → r9 = (fFew G xa xb xu xk).2) := by
  obtain ⟨hA, hH, hSl, rfl, rfl, rfl⟩ := hM
  rcases h with ⟨c, e1⟩ | ⟨c, c2, c3, e1⟩ | ⟨a9, b9, k9, ha9, hb9, hk9, e7, e8, e9, h3, h4, e1, e2⟩
  · rw [show fFew G xa xb xu xk = (1, 0) from if_pos c]; exact ⟨e1, fun q => absurd q (by decide)⟩
  · rw [show fFew G xa xb xu xk = (2, 0) from (if_neg (fun q => by rcases q with q | q; (rw [c] at q; cases q); (rw [c2] at q; cases q))).trans (if_pos c3)]; exact ⟨e1, fun q => absurd q (by decide)⟩
  · rw [e7, e8, e9, fFew_0 ha9 hb9 hk9 h3 h4]; exact ⟨e1, fun _ => e2⟩
theorem q_onlyRunning {G : GS} {r9 : Int32} {xk : Int32} {hn tn : Nat} {gt gs gv gl gk : Nat → Int32} {u : Int32 × Int32 × (Nat → Int32) × (Nat → Int32) × (Nat → Int32) × (Nat → Int32) × (Nat → Int32) × (Nat → Int32) × Int32 × Int32 × Int32 × Int32 × Bool} (h : (xk < 0 ∧ u.1 = 1) ∨ (¬ xk < 0 ∧ u.1 = 0 ∧ r9 = onlyS G.1 xk)) (hM : MI G hn tn gt gs gv gl gk) : u.1 = (fOnly G xk).1 ∧ ((fOnly G xk).1 = 0 → r9 = (fOnly G xk).2) := by
  obtain ⟨hA, hH, hSl, rfl, rfl, rfl⟩ := hM
  rcases h with ⟨c, e1⟩ | ⟨c, e1, e2⟩
  · rw [show fOnly G xk = (1, 0) from if_pos c]; exact ⟨e1, fun q => absurd q (by decide)⟩
  · rw [show fOnly G xk = (0, onlyS G.1 xk) from if_neg c]; exact ⟨e1, fun _ => e2⟩
