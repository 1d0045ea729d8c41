/-! the fewest leaps: what they are; spreading; the table -/
def Pa (R : Nat → Nat → Bool) (n : Nat) : Nat → Nat → Nat → Prop
  | 0, a, c => a = c
  | d + 1, a, c => ∃ v, v < n ∧ Pa R n d a v ∧ R v c = true
def IsD (R : Nat → Nat → Bool) (n a c : Nat) (x : Int32) : Prop := (∃ d, d ≤ 101 ∧ x = nI d ∧ Pa R n d a c ∧ ∀ e, e < d → ¬ Pa R n e a c) ∨ (x = -1 ∧ ∀ e, ¬ Pa R n e a c)
theorem IsD.one {R : Nat → Nat → Bool} {n a c : Nat} {x y : Int32} (h : IsD R n a c x) (k : IsD R n a c y) : x = y := by
  rcases h with ⟨d, -, rfl, h1, h2⟩ | ⟨rfl, h1⟩ <;> rcases k with ⟨d', -, rfl, k1, k2⟩ | ⟨rfl, k1⟩
  · rcases Nat.lt_trichotomy d d' with q | q | q
    · exact absurd h1 (k2 d q)
    · rw [q]
    · exact absurd k1 (h2 d' q)
  · exact absurd h1 (k1 d)
  · exact absurd k1 (h1 d')
  · rfl
theorem IsD.ne {R : Nat → Nat → Bool} {n a c : Nat} {x : Int32} (h : IsD R n a c x) : ¬ x = -1 ↔ ∃ e, Pa R n e a c := by
  rcases h with ⟨d, hd, rfl, h1, h2⟩ | ⟨rfl, h1⟩
  · exact ⟨fun _ => ⟨d, h1⟩, fun _ => nI_ne_m1 (by omega)⟩
  · exact ⟨fun h => absurd rfl h, fun ⟨e, h⟩ => absurd h (h1 e)⟩
/-- spreading: i is being looked from, on to x; qq, dd: the queue and the numbers of leaps -/
def BI (R : Nat → Nat → Bool) (n o : Nat) (t q : Nat → Int32) (qn i x : Nat) (qq dd : Nat → Nat) : Prop :=
  (∀ j, j < qn → q j = nI (qq j) ∧ qq j < n ∧ t (qq j) = nI (dd (qq j)) ∧ dd (qq j) ≤ j ∧ Pa R n (dd (qq j)) o (qq j)) ∧
  (∀ v, v < n → t v = -1 ∨ ∃ j, j < qn ∧ qq j = v) ∧
  (∀ j j', j < qn → j' < qn → qq j = qq j' → j = j') ∧
  (∀ j j', j ≤ j' → j' < qn → dd (qq j) ≤ dd (qq j')) ∧
  (∀ j, j < qn → i < qn → dd (qq j) ≤ dd (qq i) + 1) ∧
  (∀ j, j < i → j < qn → ∀ c, c < n → R (qq j) c = true → ¬ t c = -1 ∧ dd c ≤ dd (qq j) + 1) ∧
  (i < qn → ∀ c, c < x → R (qq i) c = true → ¬ t c = -1 ∧ dd c ≤ dd (qq i) + 1) ∧
  (1 ≤ qn ∧ qq 0 = o ∧ dd o = 0) ∧ qn ≤ 100
theorem BI.room {R : Nat → Nat → Bool} {n o : Nat} {t q : Nat → Int32} {qn i x : Nat} {qq dd : Nat → Nat} (h : BI R n o t q qn i x qq dd) (hn : n ≤ 100) {v : Nat} (hv : v < n) (ht : t v = -1) : qn < 100 := by
  obtain ⟨h1, h2, h3, -, -, -, -, -, h9⟩ := h
  have hne : ∀ j, j < qn → qq j ≠ v := fun j hj e => by
    have := (h1 j hj).2.2.1
    rw [e, ht] at this
    exact nI_ne_m1 (by have := (h1 j hj).2.2.2.1; rw [e] at this; omega) this.symm
  have h5 := fb_holes n (qn + 1) (fun j => if j < qn then qq j else v) (fun j hj => by
    show (if j < qn then qq j else v) < n
    split
    · rename_i q; exact (h1 j q).2.1
    · exact hv) (fun a b hab hb e => by
    have e : (if a < qn then qq a else v) = (if b < qn then qq b else v) := e
    rw [if_pos (show a < qn by omega)] at e
    by_cases q : b < qn
    · rw [if_pos q] at e
      have := h3 a b (by omega) q e
      omega
    · rw [if_neg q] at e
      exact hne a (by omega) e)
  omega
theorem BI.init {R : Nat → Nat → Bool} {n o : Nat} {t q : Nat → Int32} (ho : o < n) (h0 : t o = 0) (h1 : ∀ v, v < n → v ≠ o → t v = -1) (hq : q 0 = nI o) : BI R n o t q 1 0 0 (fun _ => o) (fun _ => 0) := by
  refine ⟨fun j hj => ?_, fun v hv => ?_, fun j j' a b _ => by omega, fun _ _ _ _ => Nat.le_refl _, fun _ _ _ => Nat.zero_le _, fun j hj => absurd hj (Nat.not_lt_zero _), fun _ c hc => absurd hc (Nat.not_lt_zero _), ⟨Nat.le_refl _, rfl, rfl⟩, by omega⟩
  · obtain rfl : j = 0 := by omega
    exact ⟨hq, ho, by rw [h0]; rfl, Nat.le_refl _, rfl⟩
  · by_cases e : v = o
    · exact Or.inr ⟨0, by omega, e.symm⟩
    · exact Or.inl (h1 v hv e)
theorem BI.skip {R : Nat → Nat → Bool} {n o : Nat} {t q : Nat → Int32} {qn i x : Nat} {qq dd : Nat → Nat} (h : BI R n o t q qn i x qq dd) (hx : x < n) (hi : i < qn) (hs : ¬ t x = -1 ∨ R (qq i) x = false) : BI R n o t q qn i (x + 1) qq dd := by
  obtain ⟨h1, h2, h3, h4, h5, h6, h7, h8, h9⟩ := h
  refine ⟨h1, h2, h3, h4, h5, h6, fun _ c hc hR => ?_, h8, h9⟩
  rcases Nat.lt_or_ge c x with q | q
  · exact h7 hi c q hR
  · obtain rfl : c = x := by omega
    rcases hs with hs | hs
    · refine ⟨hs, ?_⟩
      rcases h2 c hx with z | ⟨j, hj, z⟩
      · exact absurd z hs
      · rw [← z]; exact h5 j hj hi
    · rw [hs] at hR; cases hR
theorem BI.add {R : Nat → Nat → Bool} {n o : Nat} {t q t' q' : Nat → Int32} {qn i x : Nat} {qq dd : Nat → Nat} (h : BI R n o t q qn i x qq dd) (hn : n ≤ 100) (hx : x < n) (hi : i < qn) (ht : t x = -1) (hR : R (qq i) x = true)
    (ht' : ∀ v, v < n → t' v = if v = x then nI (dd (qq i) + 1) else t v) (hq' : ∀ j, j ≤ qn → q' j = if j = qn then nI x else q j) :
    BI R n o t' q' (qn + 1) i (x + 1) (fun j => if j = qn then x else qq j) (fun v => if v = x then dd (qq i) + 1 else dd v) := by
  have hroom := h.room hn hx ht
  obtain ⟨h1, h2, h3, h4, h5, h6, h7, h8, h9⟩ := h
  have hne : ∀ j, j < qn → qq j ≠ x := fun j hj e => by
    have := (h1 j hj).2.2.1
    rw [e, ht] at this
    exact nI_ne_m1 (by have := (h1 j hj).2.2.2.1; rw [e] at this; omega) this.symm
  have hd : ∀ j, j < qn → (fun v => if v = x then dd (qq i) + 1 else dd v) ((fun j => if j = qn then x else qq j) j) = dd (qq j) := fun j hj => by
    show (if (if j = qn then x else qq j) = x then _ else dd (if j = qn then x else qq j)) = _
    rw [if_neg (show ¬ j = qn by omega), if_neg (hne j hj)]
  have hdq : (fun v => if v = x then dd (qq i) + 1 else dd v) ((fun j => if j = qn then x else qq j) qn) = dd (qq i) + 1 := by
    show (if (if qn = qn then x else qq qn) = x then _ else _) = _
    rw [if_pos rfl, if_pos rfl]
  have hqj : ∀ j, j < qn → (fun j => if j = qn then x else qq j) j = qq j := fun j hj => if_neg (show ¬ j = qn by omega)
  have hqq : (fun j => if j = qn then x else qq j) qn = x := if_pos rfl
  have htc : ∀ c, c < n → ¬ t c = -1 → ¬ t' c = -1 ∧ (fun v => if v = x then dd (qq i) + 1 else dd v) c = dd c := fun c hc hh => by
    have : ¬ c = x := fun e => hh (by rw [e]; exact ht)
    exact ⟨by rw [ht' c hc, if_neg this]; exact hh, if_neg this⟩
  refine ⟨?_, ?_, ?_, ?_, ?_, ?_, ?_, ?_, by omega⟩
  · intro j hj
    rcases Nat.lt_or_ge j qn with e | e
    · rw [hd j e, hqj j e]
      obtain ⟨a1, a2, a3, a4, a5⟩ := h1 j e
      exact ⟨by rw [hq' j (by omega), if_neg (by omega)]; exact a1, a2, by rw [ht' _ a2, if_neg (hne j e)]; exact a3, a4, a5⟩
    · obtain rfl : j = qn := by omega
      rw [hdq, hqq]
      obtain ⟨a1, a2, a3, a4, a5⟩ := h1 i hi
      exact ⟨by rw [hq' j (by omega), if_pos rfl], hx, by rw [ht' _ hx, if_pos rfl], by omega, ⟨qq i, a2, a5, hR⟩⟩
  · intro v hv
    by_cases e : v = x
    · exact Or.inr ⟨qn, by omega, by rw [hqq]; exact e.symm⟩
    · rcases h2 v hv with z | ⟨j, hj, z⟩
      · exact Or.inl (by rw [ht' v hv, if_neg e]; exact z)
      · exact Or.inr ⟨j, by omega, by rw [hqj j hj]; exact z⟩
  · intro j j' hj hj' e
    rcases Nat.lt_or_ge j qn with e1 | e1 <;> rcases Nat.lt_or_ge j' qn with e2 | e2
    · rw [hqj j e1, hqj j' e2] at e; exact h3 j j' e1 e2 e
    · obtain rfl : j' = qn := by omega
      rw [hqj j e1, hqq] at e; exact absurd e (hne j e1)
    · obtain rfl : j = qn := by omega
      rw [hqj j' e2, hqq] at e; exact absurd e.symm (hne j' e2)
    · omega
  · intro j j' hjj hj'
    rcases Nat.lt_or_ge j' qn with e2 | e2
    · rw [hd j (by omega), hd j' e2]; exact h4 j j' hjj e2
    · obtain rfl : j' = qn := by omega
      rw [hdq]
      rcases Nat.lt_or_ge j j' with e1 | e1
      · rw [hd j e1]; exact h5 j e1 hi
      · obtain rfl : j = j' := by omega
        rw [hdq]; exact Nat.le_refl _
  · intro j hj _
    rw [hd i hi]
    rcases Nat.lt_or_ge j qn with e1 | e1
    · rw [hd j e1]; exact h5 j e1 hi
    · obtain rfl : j = qn := by omega
      rw [hdq]; exact Nat.le_refl _
  · intro j hji hj c hc hR2
    rcases Nat.lt_or_ge j qn with e1 | e1
    · rw [hqj j e1] at hR2
      obtain ⟨b1, b2⟩ := h6 j hji e1 c hc hR2
      obtain ⟨b3, b4⟩ := htc c hc b1
      rw [b4, hd j e1]; exact ⟨b3, b2⟩
    · omega
  · intro _ c hc hR2
    rw [hqj i hi] at hR2
    rw [hd i hi]
    rcases Nat.lt_or_ge c x with e1 | e1
    · obtain ⟨b1, b2⟩ := h7 hi c e1 hR2
      obtain ⟨b3, b4⟩ := htc c (by omega) b1
      rw [b4]; exact ⟨b3, b2⟩
    · obtain rfl : c = x := by omega
      refine ⟨?_, ?_⟩
      · rw [ht' c hx, if_pos rfl]
        exact nI_ne_m1 (by have := (h1 i hi).2.2.2.1; omega)
      · show (if c = c then dd (qq i) + 1 else dd c) ≤ _
        rw [if_pos rfl]; exact Nat.le_refl _
  · obtain ⟨a1, a2, a3⟩ := h8
    refine ⟨by omega, by rw [hqj 0 (by omega)]; exact a2, ?_⟩
    have := hne 0 (by omega)
    rw [a2] at this
    show (if o = x then _ else dd o) = 0
    rw [if_neg this]; exact a3
theorem BI.next {R : Nat → Nat → Bool} {n o : Nat} {t q : Nat → Int32} {qn i x : Nat} {qq dd : Nat → Nat} (h : BI R n o t q qn i x qq dd) (hi : i < qn) (hx : n ≤ x) : BI R n o t q qn (i + 1) 0 qq dd := by
  obtain ⟨h1, h2, h3, h4, h5, h6, h7, h8, h9⟩ := h
  refine ⟨h1, h2, h3, h4, fun j hj hi2 => ?_, fun j hji hj c hc hR => ?_, fun _ c hc => absurd hc (Nat.not_lt_zero _), h8, h9⟩
  · have a := h5 j hj hi
    have b := h4 i (i + 1) (by omega) hi2
    omega
  · rcases Nat.lt_or_ge j i with e | e
    · exact h6 j e hj c hc hR
    · obtain rfl : j = i := by omega
      exact h7 hi c (by omega) hR
theorem BI.done {R : Nat → Nat → Bool} {n o : Nat} {t q : Nat → Int32} {qn i x : Nat} {qq dd : Nat → Nat} (h : BI R n o t q qn i x qq dd) (ho : o < n) (hi : qn ≤ i) {b : Nat} (hb : b < n) : IsD R n o b (t b) := by
  obtain ⟨h1, h2, h3, h4, h5, h6, h7, h8, h9⟩ := h
  have h0 : ¬ t o = -1 := by
    have := (h1 0 (by omega)).2.2.1
    rw [h8.2.1, h8.2.2] at this
    rw [this]; exact nI_ne_m1 (by omega)
  have key : ∀ e c, c < n → Pa R n e o c → ¬ t c = -1 ∧ dd c ≤ e := by
    intro e
    induction e with
    | zero =>
      intro c _ hp
      have hp : o = c := hp
      subst hp
      exact ⟨h0, by omega⟩
    | succ e ih =>
      intro c hc hp
      obtain ⟨v, hv, hpv, hR⟩ := hp
      obtain ⟨a1, a2⟩ := ih v hv hpv
      rcases h2 v hv with z | ⟨j, hj, rfl⟩
      · exact absurd z a1
      · obtain ⟨b1, b2⟩ := h6 j (by omega) hj c hc hR
        exact ⟨b1, by omega⟩
  rcases h2 b hb with z | ⟨j, hj, rfl⟩
  · exact Or.inr ⟨z, fun e hp => (key e b hb hp).1 z⟩
  · obtain ⟨a1, a2, a3, a4, a5⟩ := h1 j hj
    exact Or.inl ⟨dd (qq j), by omega, a3, a5, fun e he hp => by have := (key e _ hb hp).2; omega⟩
def Rk (g : Nat → Int32) (k : Nat) : Nat → Nat → Bool := fun a b => comeF g a b (nI k)
/-- the kept finds hold -/
def RtOK (g : Nat → Int32) (n : Nat) (og sp : Nat → Int32) : Prop := ∀ k, k < 4 → ∀ o, o < n → og k = nI o → ∀ b, b < n → IsD (Rk g k) n o b (sp (100 * k + b))
def spF (sp : Nat → Int32) (k i : Nat) : Nat → Int32 := fun j => if 100 * k ≤ j ∧ j < 100 * k + i then -1 else sp j
theorem spF_0 (sp : Nat → Int32) (k : Nat) : spF sp k 0 = sp := by funext j; unfold spF; rw [if_neg (by omega)]
theorem spF_s (sp : Nat → Int32) (k i : Nat) : upd (spF sp k i) (100 * k + i) (-1) = spF sp k (i + 1) := by
  funext j
  unfold spF upd
  by_cases h : j = 100 * k + i
  · rw [if_pos h, if_pos (by omega)]
  · rw [if_neg h]
    show (if 100 * k ≤ j ∧ j < 100 * k + i then -1 else sp j) = _
    by_cases q : 100 * k ≤ j ∧ j < 100 * k + i
    · rw [if_pos q, if_pos (by omega)]
    · rw [if_neg q, if_neg (by omega)]
theorem nI_ne {a b : Nat} (ha : a < 2 ^ 31) (hb : b < 2 ^ 31) (h : ¬ nI a = nI b) : a ≠ b := fun e => h (by rw [e])
theorem sp_out {gsp : Nat → Int32} {k o j : Nat} (ho : o < 100) (h : j < 100 * k ∨ 100 * k + 100 ≤ j) : upd (spF gsp k 100) (100 * k + o) 0 j = gsp j := by
  unfold upd spF
  rw [if_neg (by omega), if_neg (by omega)]
theorem sp_init {R : Nat → Nat → Bool} {gsp gqu : Nat → Int32} {k o n : Nat} (hn : n ≤ 100) (ho : o < n) : BI R n o (fun b => upd (spF gsp k 100) (100 * k + o) 0 (100 * k + b)) (upd gqu 0 (nI o)) 1 0 0 (fun _ => o) (fun _ => 0) := by
  refine BI.init ho pk_us (fun v hv e => ?_) pk_us
  show upd (spF gsp k 100) (100 * k + o) 0 (100 * k + v) = -1
  unfold upd spF
  rw [if_neg (by omega), if_pos (by omega)]
theorem sp_done {g gsp sp gog q : Nat → Int32} {k o n qn i : Nat} {qq dd : Nat → Nat} (hk : k < 4) (ho : o < n) (hrt : RtOK g n gog gsp) (hout : ∀ j, (j < 100 * k ∨ 100 * k + 100 ≤ j) → sp j = gsp j) (hn : n ≤ 100)
    (h : BI (Rk g k) n o (fun b => sp (100 * k + b)) q qn i 0 qq dd) (hi : qn ≤ i ∨ 100 ≤ i) : RtOK g n (upd gog k (nI o)) sp ∧ upd gog k (nI o) k = nI o ∧ ∀ k', k' ≠ k → upd gog k (nI o) k' = gog k' := by
  refine ⟨?_, pk_us, fun k' h => pk_un h⟩
  intro k' hk' o' ho' e b hb
  by_cases q : k' = k
  · subst q
    rw [pk_us] at e
    obtain rfl := nI_inj (by omega) (by omega) e
    exact h.done ho (by have := h.2.2.2.2.2.2.2.2; omega) hb
  · rw [pk_un q] at e
    rw [hout _ (by omega)]
    exact hrt k' hk' o' ho' e b hb
theorem at_upd {sp : Nat → Int32} {K x v : Nat} {y : Int32} : upd sp (K + x) y (K + v) = if v = x then y else sp (K + v) := by
  unfold upd
  by_cases h : v = x
  · rw [if_pos h, if_pos (by rw [h])]
  · rw [if_neg h, if_neg (by omega)]
/-- walks that go by ledges below b alone -/
def Wb (R : Nat → Nat → Bool) (b : Nat) : Nat → Nat → Nat → Prop
  | 0, a, c => a = c
  | d + 1, a, c => (d = 0 ∧ R a c = true) ∨ ∃ v, v < b ∧ Wb R b d a v ∧ R v c = true
theorem Wb.mono {R : Nat → Nat → Bool} {b : Nat} : ∀ {d a c : Nat}, Wb R b d a c → Wb R (b + 1) d a c := by
  intro d
  induction d with
  | zero => intro a c h; exact h
  | succ d ih =>
    rintro a c (h | ⟨v, hv, h1, h2⟩)
    · exact Or.inl h
    · exact Or.inr ⟨v, by omega, ih h1, h2⟩
theorem Wb.split {R : Nat → Nat → Bool} {b : Nat} : ∀ {d a c : Nat}, Wb R (b + 1) d a c → Wb R b d a c ∨ ∃ d1 d2, d1 + d2 ≤ d ∧ Wb R b d1 a b ∧ Wb R b d2 b c := by
  intro d
  induction d with
  | zero => intro a c h; exact Or.inl h
  | succ d ih =>
    rintro a c (h | ⟨v, hv, h1, h2⟩)
    · exact Or.inl (Or.inl h)
    · rcases Nat.lt_or_ge v b with q | q
      · rcases ih h1 with z | ⟨d1, d2, z1, z2, z3⟩
        · exact Or.inl (Or.inr ⟨v, q, z, h2⟩)
        · exact Or.inr ⟨d1, d2 + 1, by omega, z2, Or.inr ⟨v, q, z3, h2⟩⟩
      · obtain rfl : v = b := by omega
        rcases ih h1 with z | ⟨d1, d2, z1, z2, z3⟩
        · exact Or.inr ⟨d, 1, by omega, z, Or.inl ⟨rfl, h2⟩⟩
        · exact Or.inr ⟨d1, 1, by omega, z2, Or.inl ⟨rfl, h2⟩⟩
theorem Wb.Pa {R : Nat → Nat → Bool} {n : Nat} : ∀ {d a c : Nat}, a < n → (Wb R n d a c ↔ Pa R n d a c) := by
  intro d
  induction d with
  | zero => intro a c _; exact Iff.rfl
  | succ d ih =>
    intro a c ha
    constructor
    · rintro (⟨rfl, h⟩ | ⟨v, hv, h1, h2⟩)
      · exact ⟨a, ha, rfl, h⟩
      · exact ⟨v, hv, (ih ha).mp h1, h2⟩
    · rintro ⟨v, hv, h1, h2⟩
      exact Or.inr ⟨v, hv, (ih ha).mpr h1, h2⟩
theorem Pa.app {R : Nat → Nat → Bool} {n : Nat} : ∀ {e d a b c : Nat}, Pa R n d a b → Pa R n e b c → Pa R n (d + e) a c := by
  intro e
  induction e with
  | zero => intro d a b c h1 h2; have h2 : b = c := h2; subst h2; exact h1
  | succ e ih =>
    intro d a b c h1 h2
    obtain ⟨v, hv, h3, h4⟩ := h2
    exact ⟨v, hv, ih h1 h3, h4⟩
