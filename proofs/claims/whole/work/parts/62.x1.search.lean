/-! Pure (by program: wip/whole/pure/lay.py) -/
/-! The class's search as sets of places -/
def uLst (g : Nat → Int32) (p : Nat) (x : Int32) : Prop := (x = -1 ∧ ∀ j, j < p → g j = 0) ∨ ∃ j, j < p ∧ ¬ g j = 0 ∧ x = nI j ∧ ∀ i, j < i → i < p → g i = 0
def uStl (s : Nat) (g lt : Nat → Int32) : Prop := ∀ q, q ≤ s → uLst g (q + 1) (lt q)
theorem u_kSet (g : Nat → Int32) : ∀ (r p : Nat) (last : Int32) (lt : Nat → Int32), uLst g p last → (∀ q, q < p → uLst g (q + 1) (lt q)) → ∀ q, q < p + r → uLst g (q + 1) (kSet r p last g lt q) := by
  intro r
  induction r with
  | zero => intro p last lt hl h q hq; exact h q hq
  | succ r ih =>
    intro p last lt hl h q hq
    have key : uLst g (p + 1) (if g p = 0 then last else nI p) := by
      by_cases hz : g p = 0
      · rw [if_pos hz]
        rcases hl with ⟨e, h0⟩ | ⟨j, hj, hn, e, h0⟩
        · exact Or.inl ⟨e, fun j hj => by rcases Nat.lt_succ_iff_lt_or_eq.mp hj with k | k; exact h0 j k; rw [k]; exact hz⟩
        · exact Or.inr ⟨j, by omega, hn, e, fun i a b => by rcases Nat.lt_succ_iff_lt_or_eq.mp b with k | k; exact h0 i a k; rw [k]; exact hz⟩
      · rw [if_neg hz]
        exact Or.inr ⟨p, by omega, hz, rfl, fun i a b => by omega⟩
    refine ih (p + 1) _ _ key ?_ q (by omega)
    intro q2 hq2
    by_cases e : q2 = p
    · subst e; rw [pk_us]; exact key
    · rw [pk_un e]; exact h q2 (by omega)
theorem u_stl (s : Nat) (g lt : Nat → Int32) : uStl s g (kSet (s + 1) 0 (-1) g lt) := fun q hq =>
  u_kSet g (s + 1) 0 (-1) lt (Or.inl ⟨rfl, fun j hj => absurd hj (by omega)⟩) (fun q2 h2 => absurd h2 (by omega)) q (by omega)
theorem u_any {s : Nat} (hs : s ≤ 80) {g lt : Nat → Int32} (h : uStl s g lt) (a b : Int32) : kAny lt s a b ↔ ∃ j, j ≤ s ∧ ¬ g j = 0 ∧ a ≤ nI j ∧ nI j ≤ b := by
  have key : ∀ m : Nat, m ≤ s → (¬ nI m < 0 ∧ ¬ lt (nI m).toNatClampNeg < (if a < 0 then 0 else a) ↔ ∃ j, j ≤ m ∧ ¬ g j = 0 ∧ a ≤ nI j) := by
    intro m hm
    rw [nI_clamp (by omega)]
    have ha : ∀ j : Nat, j ≤ 80 → (¬ nI j < (if a < 0 then 0 else a) ↔ a ≤ nI j) := by
      intro j hj
      by_cases h0 : a < 0
      · rw [if_pos h0]
        rw [Int32.lt_iff_toInt_lt] at h0 ⊢
        rw [Int32.le_iff_toInt_le, nI_toInt (by omega)]
        rw [Int32.toInt_zero] at *
        omega
      · rw [if_neg h0, Int32.lt_iff_toInt_lt, Int32.le_iff_toInt_le]; omega
    constructor
    · rintro ⟨_, h2⟩
      rcases h m hm with ⟨e, h0⟩ | ⟨j, hj, hn, e, h0⟩
      · rw [e] at h2
        exfalso
        apply h2
        by_cases h0 : a < 0
        · rw [if_pos h0]; decide
        · rw [if_neg h0]
          rw [Int32.lt_iff_toInt_lt] at h0 ⊢
          have : (-1 : Int32).toInt = -1 := by decide
          rw [Int32.toInt_zero] at h0
          omega
      · rw [e] at h2
        exact ⟨j, by omega, hn, (ha j (by omega)).mp h2⟩
    · rintro ⟨j, hj, hn, h2⟩
      refine ⟨nI_pos (by omega), ?_⟩
      rcases h m hm with ⟨e, h0⟩ | ⟨i, hi, hn2, e, h0⟩
      · exact absurd (h0 j (by omega)) hn
      · rw [e, ha i (by omega)]
        have hji : j ≤ i := Nat.le_of_not_lt (fun q => hn (h0 j q (by omega)))
        rw [Int32.le_iff_toInt_le, nI_toInt (by omega)] at h2 ⊢
        omega
  unfold kAny
  by_cases hb : nI s < b
  · rw [if_pos hb, key s (by omega)]
    constructor
    · rintro ⟨j, hj, hn, h2⟩
      refine ⟨j, hj, hn, h2, ?_⟩
      rw [Int32.lt_iff_toInt_lt, nI_toInt (by omega)] at hb
      rw [Int32.le_iff_toInt_le, nI_toInt (by omega)]; omega
    · rintro ⟨j, hj, hn, h2, _⟩; exact ⟨j, hj, hn, h2⟩
  · rw [if_neg hb]
    by_cases hn : b < 0
    · constructor
      · rintro ⟨q, _⟩; exact absurd hn q
      · rintro ⟨j, hj, _, _, h3⟩
        rw [Int32.lt_iff_toInt_lt, Int32.toInt_zero] at hn
        rw [Int32.le_iff_toInt_le, nI_toInt (by omega)] at h3
        omega
    · obtain ⟨m, hm, e⟩ := nI_of hn
      subst e
      have hms : m ≤ s := by
        rw [Int32.lt_iff_toInt_lt, nI_toInt (by omega), nI_toInt hm] at hb; omega
      rw [key m hms]
      constructor
      · rintro ⟨j, hj, hn, h2⟩
        exact ⟨j, by omega, hn, h2, nI_le hj hm⟩
      · rintro ⟨j, hj, hn, h2, h3⟩
        exact ⟨j, (nI_leI (by omega) hm).mp h3, hn, h2⟩
theorem u_start : ∀ (r p : Nat) (g : Nat → Int32) (j : Nat), kStart r p g j = if p ≤ j ∧ j < p + r then (if j = 0 then 1 else 0) else g j := by
  intro r
  induction r with
  | zero => intro p g j; rw [if_neg (show ¬ (p ≤ j ∧ j < p + 0) by omega)]; rfl
  | succ r ih =>
    intro p g j
    show kStart r (p + 1) _ j = _
    rw [ih]
    by_cases h : p + 1 ≤ j ∧ j < p + 1 + r
    · rw [if_pos h, if_pos (show p ≤ j ∧ j < p + (r + 1) by omega)]
    · rw [if_neg h]
      by_cases e : j = p
      · subst e; rw [pk_us, if_pos (show j ≤ j ∧ j < j + (r + 1) by omega)]
      · rw [pk_un e, if_neg (by omega)]
theorem u_find (ac : Bool) (c : Nat) (ct : Int64) (tx : Nat → Int32) (s : Nat) : ∀ (r p : Nat) (g : Nat → Int32) (j : Nat), vFind ac c ct tx s r p g j = if p ≤ j ∧ j < p + r then (if oSt ac c ct tx s (nI j) then 1 else 0) else g j := by
  intro r
  induction r with
  | zero => intro p g j; rw [if_neg (show ¬ (p ≤ j ∧ j < p + 0) by omega)]; rfl
  | succ r ih =>
    intro p g j
    show vFind ac c ct tx s r (p + 1) _ j = _
    rw [ih]
    by_cases h : p + 1 ≤ j ∧ j < p + 1 + r
    · rw [if_pos h, if_pos (show p ≤ j ∧ j < p + (r + 1) by omega)]
    · rw [if_neg h]
      by_cases e : j = p
      · subst e; rw [pk_us, if_pos (show j ≤ j ∧ j < j + (r + 1) by omega)]
      · rw [pk_un e, if_neg (by omega)]
theorem u_move (le mo sz : Int32) (fm bl : Nat → Int32) (e : Nat) : ∀ (r p : Nat) (g : Nat → Int32) (j : Nat), vMove le mo sz fm bl e r p g j = if p ≤ j ∧ j < p + r then (if vHit le mo sz fm bl e (nI j) then 1 else 0) else g j := by
  intro r
  induction r with
  | zero => intro p g j; rw [if_neg (show ¬ (p ≤ j ∧ j < p + 0) by omega)]; rfl
  | succ r ih =>
    intro p g j
    show vMove le mo sz fm bl e r (p + 1) _ j = _
    rw [ih]
    by_cases h : p + 1 ≤ j ∧ j < p + 1 + r
    · rw [if_pos h, if_pos (show p ≤ j ∧ j < p + (r + 1) by omega)]
    · rw [if_neg h]
      by_cases e : j = p
      · subst e; rw [pk_us, if_pos (show j ≤ j ∧ j < j + (r + 1) by omega)]
      · rw [pk_un e, if_neg (by omega)]
theorem u_drop (rl : Bool) (le mo : Int32) (fl : Nat → Int32) (e : Nat) : ∀ (r p : Nat) (g : Nat → Int32) (j : Nat), vDrop rl le mo fl e r p g j = if (p ≤ j ∧ j < p + r) ∧ kAny fl e ((if rl then nI j else 0) + le) ((if rl then nI j else 0) + mo) then 0 else g j := by
  intro r
  induction r with
  | zero => intro p g j; rw [if_neg (show ¬ ((p ≤ j ∧ j < p + 0) ∧ kAny fl e ((if rl then nI j else 0) + le) ((if rl then nI j else 0) + mo)) from fun z => by omega)]; rfl
  | succ r ih =>
    intro p g j
    show vDrop rl le mo fl e r (p + 1) _ j = _
    rw [ih]
    have st : (if kAny fl e ((if rl then nI p else 0) + le) ((if rl then nI p else 0) + mo) then upd g p 0 else g) j = if j = p ∧ kAny fl e ((if rl then nI j else 0) + le) ((if rl then nI j else 0) + mo) then 0 else g j := by
      by_cases q : kAny fl e ((if rl then nI p else 0) + le) ((if rl then nI p else 0) + mo)
      · rw [if_pos q]
        by_cases e1 : j = p
        · subst e1; rw [pk_us, if_pos ⟨rfl, q⟩]
        · rw [pk_un e1, if_neg (fun z => e1 z.1)]
      · rw [if_neg q]
        by_cases e1 : j = p
        · subst e1; rw [if_neg (fun z => q z.2)]
        · rw [if_neg (fun z => e1 z.1)]
    rw [st]
    by_cases q : kAny fl e ((if rl then nI j else 0) + le) ((if rl then nI j else 0) + mo)
    · by_cases h : p + 1 ≤ j ∧ j < p + 1 + r
      · rw [if_pos ⟨h, q⟩, if_pos ⟨(show p ≤ j ∧ j < p + (r + 1) by omega), q⟩]
      · rw [if_neg (fun z => h z.1)]
        by_cases e1 : j = p
        · rw [if_pos ⟨e1, q⟩, if_pos ⟨(show p ≤ j ∧ j < p + (r + 1) by omega), q⟩]
        · rw [if_neg (fun z => e1 z.1), if_neg (show ¬ ((p ≤ j ∧ j < p + (r + 1)) ∧ kAny fl e ((if rl then nI j else 0) + le) ((if rl then nI j else 0) + mo)) from fun z => by have := z.1; omega)]
    · rw [if_neg (fun z => q z.2), if_neg (fun z => q z.2), if_neg (fun z => q z.2)]

theorem u_addI {x y : Int32} (hx : -500000000 ≤ x.toInt ∧ x.toInt ≤ 500000000) (hy : -500000000 ≤ y.toInt ∧ y.toInt ≤ 500000000) : (x + y).toInt = x.toInt + y.toInt := by
  rw [Int32.toInt_add, Int.bmod_def]; split <;> omega
theorem u_subI {x y : Int32} (hx : -500000000 ≤ x.toInt ∧ x.toInt ≤ 500000000) (hy : -500000000 ≤ y.toInt ∧ y.toInt ≤ 500000000) : (x - y).toInt = x.toInt - y.toInt := by
  rw [Int32.toInt_sub, Int.bmod_def]; split <;> omega
/-- an option stands at p, so far from b as it asks -/
def uHit (t : oT) (tx : Nat → Int32) (s p b : Nat) : Prop := oSt t.2.2.2.2.2.2 t.2.2.2.2.1 t.2.2.2.2.2.1 tx s (nI p) = true ∧ t.2.2.1.toInt ≤ (p : Int) - b ∧ (p : Int) - b ≤ t.2.2.2.1.toInt
def uSat (tx : Nat → Int32) (s : Nat) : List oT → Nat → Prop
  | [], _ => True
  | t :: os, b => if t.1 = true then (¬ ∃ p, p ≤ s ∧ uHit t tx s p (if t.2.1 = true then b else 0)) ∧ uSat tx s os b else ∃ p, p ≤ s ∧ uHit t tx s p (if t.2.1 = true then b else 0) ∧ uSat tx s os (p + t.2.2.2.2.1)
def uOk (t : oT) : Prop := (-200 ≤ t.2.2.1.toInt ∧ t.2.2.1.toInt ≤ 200) ∧ (-200 ≤ t.2.2.2.1.toInt ∧ t.2.2.2.1.toInt ≤ 200) ∧ t.2.2.2.2.1 ≤ 6
theorem u_fm (t : oT) (tx : Nat → Int32) (s : Nat) (fm : Nat → Int32) {p : Nat} (hp : p ≤ s) : ¬ vFm t tx s fm p = 0 ↔ oSt t.2.2.2.2.2.2 t.2.2.2.2.1 t.2.2.2.2.2.1 tx s (nI p) = true := by
  unfold vFm
  rw [u_find, if_pos (by omega)]
  by_cases h : oSt t.2.2.2.2.2.2 t.2.2.2.2.1 t.2.2.2.2.2.1 tx s (nI p) = true
  · rw [if_pos h]; exact ⟨fun _ => h, fun _ => by decide⟩
  · rw [if_neg h]; exact ⟨fun q => absurd rfl q, fun q => absurd q h⟩
theorem u_stand {ac : Bool} {c : Nat} {ct : Int64} {tx : Nat → Int32} {s p : Nat} (hs : s ≤ 80) (hc : c ≤ 6) (hp : p ≤ s) (h : oSt ac c ct tx s (nI p) = true) : p + c ≤ s := by
  unfold oSt at h
  rw [Bool.and_eq_true, decide_eq_true_eq, nI_add] at h
  exact (nI_leI (by omega) (by omega)).mp h.1
theorem u_neg {t : oT} (ok : uOk t) {tx : Nat → Int32} {s : Nat} (hs : s ≤ 80) (fm fl : Nat → Int32) (b : Nat) (hb : b ≤ s) (x : Int32) (hx : x = nI b) : kAny (kSet (s + 1) 0 (-1) (vFm t tx s fm) fl) s (x + t.2.2.1) (x + t.2.2.2.1) ↔ ∃ p, p ≤ s ∧ uHit t tx s p b := by
  subst hx
  rw [u_any hs (u_stl s _ _)]
  have hbI : (nI b).toInt = (b : Int) := nI_toInt (by omega)
  have e1 : (nI b + t.2.2.1).toInt = b + t.2.2.1.toInt := by rw [u_addI (by omega) (by have := ok.1; omega), hbI]
  have e2 : (nI b + t.2.2.2.1).toInt = b + t.2.2.2.1.toInt := by rw [u_addI (by omega) (by have := ok.2.1; omega), hbI]
  constructor
  · rintro ⟨p, hp, h1, h2, h3⟩
    rw [Int32.le_iff_toInt_le, nI_toInt (n := p) (by omega)] at h2 h3
    exact ⟨p, hp, (u_fm t tx s fm hp).mp h1, by omega, by omega⟩
  · rintro ⟨p, hp, h1, h2, h3⟩
    refine ⟨p, hp, (u_fm t tx s fm hp).mpr h1, ?_, ?_⟩ <;> rw [Int32.le_iff_toInt_le, nI_toInt (n := p) (by omega)] <;> omega
theorem u_pos {t : oT} (ok : uOk t) {tx : Nat → Int32} {s : Nat} (hs : s ≤ 80) (fm bm bl : Nat → Int32) (hb : uStl s bm bl) (j : Nat) (hj : j ≤ s) : vHit t.2.2.1 t.2.2.2.1 (nI t.2.2.2.2.1) (vFm t tx s fm) bl s (nI j) ↔ ∃ p, p ≤ s ∧ j = p + t.2.2.2.2.1 ∧ ∃ b, b ≤ s ∧ ¬ bm b = 0 ∧ uHit t tx s p b := by
  have hc := ok.2.2
  have hjI : (nI j).toInt = (j : Int) := nI_toInt (by omega)
  have hcI : (nI t.2.2.2.2.1).toInt = (t.2.2.2.2.1 : Int) := nI_toInt (by omega)
  have e0 : (nI j - nI t.2.2.2.2.1).toInt = j - t.2.2.2.2.1 := by rw [u_subI (by omega) (by omega), hjI, hcI]
  have e1 : (nI j - nI t.2.2.2.2.1 - t.2.2.2.1).toInt = j - t.2.2.2.2.1 - t.2.2.2.1.toInt := by rw [u_subI (by omega) (by have := ok.2.1; omega), e0]
  have e2 : (nI j - nI t.2.2.2.2.1 - t.2.2.1).toInt = j - t.2.2.2.2.1 - t.2.2.1.toInt := by rw [u_subI (by omega) (by have := ok.1; omega), e0]
  unfold vHit
  rw [u_any hs hb]
  constructor
  · rintro ⟨⟨h1, h2, h3⟩, b, hb1, hb2, h4, h5⟩
    rw [Int32.lt_iff_toInt_lt, e0, Int32.toInt_zero] at h1
    have e3 : nI j - nI t.2.2.2.2.1 = nI (j - t.2.2.2.2.1) := pk_sub (by omega)
    rw [e3, nI_clamp (by omega)] at h3
    rw [Int32.le_iff_toInt_le, nI_toInt (n := b) (by omega)] at h4 h5
    exact ⟨j - t.2.2.2.2.1, by omega, by omega, b, hb1, hb2, (u_fm t tx s fm (by omega)).mp h3, by omega, by omega⟩
  · rintro ⟨p, hp, ej, b, hb1, hb2, h1, h2, h3⟩
    have e3 : nI j - nI t.2.2.2.2.1 = nI p := by rw [pk_sub (by omega)]; congr 1; omega
    refine ⟨⟨?_, ?_, ?_⟩, b, hb1, hb2, ?_, ?_⟩
    · rw [e3]; exact nI_pos (by omega)
    · rw [e3]; exact nI_nlt (b := p) (a := 80) (by omega) (by omega)
    · rw [e3, nI_clamp (by omega)]; exact (u_fm t tx s fm hp).mpr h1
    · rw [Int32.le_iff_toInt_le, nI_toInt (n := b) (by omega)]; omega
    · rw [Int32.le_iff_toInt_le, nI_toInt (n := b) (by omega)]; omega
theorem u_step {t : oT} (ok : uOk t) {tx : Nat → Int32} {s : Nat} (hs : s ≤ 80) (os : List oT) (bm bl fm fl : Nat → Int32) (hb : uStl s bm bl) (hne : ∃ j, j ≤ s ∧ ¬ bm j = 0) :
    (∃ j, j ≤ s ∧ ¬ bm j = 0 ∧ uSat tx s (t :: os) j) ↔ ∃ j, j ≤ s ∧ ¬ vBm t s bm bl (vFm t tx s fm) (kSet (s + 1) 0 (-1) (vFm t tx s fm) fl) j = 0 ∧ uSat tx s os j := by
  unfold vBm
  by_cases hn : t.1 = true
  · have key : ∀ j, j ≤ s → (¬ (if t.1 = true then vDrop t.2.1 t.2.2.1 t.2.2.2.1 (kSet (s + 1) 0 (-1) (vFm t tx s fm) fl) s (s + 1) 0 bm else vMove t.2.2.1 t.2.2.2.1 (nI t.2.2.2.2.1) (vFm t tx s fm) (vL0 t.2.1 s bm bl) s (s + 1) 0 (vB0 t.2.1 s bm)) j = 0 ↔ ¬ bm j = 0 ∧ ¬ ∃ p, p ≤ s ∧ uHit t tx s p (if t.2.1 = true then j else 0)) := by
      intro j hj
      rw [if_pos hn, u_drop]
      have q := u_neg ok hs (tx := tx) fm fl (if t.2.1 = true then j else 0) (by split <;> omega) (if t.2.1 = true then nI j else 0) (by split; rfl; rfl)
      by_cases h : ∃ p, p ≤ s ∧ uHit t tx s p (if t.2.1 = true then j else 0)
      · rw [if_pos ⟨by omega, q.mpr h⟩]; exact ⟨fun z => absurd rfl z, fun z => absurd h z.2⟩
      · rw [if_neg (fun z => h (q.mp z.2))]; exact ⟨fun z => ⟨z, h⟩, fun z => z.1⟩
    constructor
    · rintro ⟨j, hj, h1, h2⟩
      unfold uSat at h2
      rw [if_pos hn] at h2
      exact ⟨j, hj, (key j hj).mpr ⟨h1, h2.1⟩, h2.2⟩
    · rintro ⟨j, hj, h1, h2⟩
      have := (key j hj).mp h1
      refine ⟨j, hj, this.1, ?_⟩
      unfold uSat
      rw [if_pos hn]
      exact ⟨this.2, h2⟩
  · have hb2 : uStl s (vB0 t.2.1 s bm) (vL0 t.2.1 s bm bl) := by
      unfold vB0 vL0
      by_cases hr : t.2.1 = true
      · rw [if_pos hr, if_pos hr]; exact hb
      · rw [if_neg hr, if_neg hr]; exact u_stl s _ _
    have key : ∀ j, j ≤ s → (¬ (if t.1 = true then vDrop t.2.1 t.2.2.1 t.2.2.2.1 (kSet (s + 1) 0 (-1) (vFm t tx s fm) fl) s (s + 1) 0 bm else vMove t.2.2.1 t.2.2.2.1 (nI t.2.2.2.2.1) (vFm t tx s fm) (vL0 t.2.1 s bm bl) s (s + 1) 0 (vB0 t.2.1 s bm)) j = 0 ↔ ∃ p, p ≤ s ∧ j = p + t.2.2.2.2.1 ∧ ∃ b, b ≤ s ∧ ¬ vB0 t.2.1 s bm b = 0 ∧ uHit t tx s p b) := by
      intro j hj
      rw [if_neg hn, u_move, if_pos (by omega)]
      have q := u_pos ok hs (tx := tx) fm _ _ hb2 j hj
      by_cases h : vHit t.2.2.1 t.2.2.2.1 (nI t.2.2.2.2.1) (vFm t tx s fm) (vL0 t.2.1 s bm bl) s (nI j)
      · rw [if_pos h]; exact ⟨fun _ => q.mp h, fun _ => by decide⟩
      · rw [if_neg h]; exact ⟨fun z => absurd rfl z, fun z => absurd (q.mpr z) h⟩
    have bas : ∀ p, (∃ b, b ≤ s ∧ ¬ vB0 t.2.1 s bm b = 0 ∧ uHit t tx s p b) ↔ ∃ b, b ≤ s ∧ ¬ bm b = 0 ∧ uHit t tx s p (if t.2.1 = true then b else 0) := by
      intro p
      unfold vB0
      by_cases hr : t.2.1 = true
      · rw [if_pos hr]
        constructor
        · rintro ⟨b, h1, h2, h3⟩; exact ⟨b, h1, h2, by rw [if_pos hr]; exact h3⟩
        · rintro ⟨b, h1, h2, h3⟩; rw [if_pos hr] at h3; exact ⟨b, h1, h2, h3⟩
      · rw [if_neg hr]
        constructor
        · rintro ⟨b, h1, h2, h3⟩
          rw [u_start, if_pos (by omega)] at h2
          have b0 : b = 0 := Classical.byContradiction (fun z => h2 (if_neg z))
          obtain ⟨j, hj, hj2⟩ := hne
          exact ⟨j, hj, hj2, by rw [if_neg hr]; rw [b0] at h3; exact h3⟩
        · rintro ⟨b, h1, h2, h3⟩
          rw [if_neg hr] at h3
          exact ⟨0, by omega, by rw [u_start, if_pos (by omega), if_pos rfl]; decide, h3⟩
    constructor
    · rintro ⟨j, hj, h1, h2⟩
      unfold uSat at h2
      rw [if_neg hn] at h2
      obtain ⟨p, hp, h3, h4⟩ := h2
      have hc := u_stand hs ok.2.2 hp h3.1
      exact ⟨p + t.2.2.2.2.1, hc, (key _ hc).mpr ⟨p, hp, rfl, (bas p).mpr ⟨j, hj, h1, h3⟩⟩, h4⟩
    · rintro ⟨j, hj, h1, h2⟩
      obtain ⟨p, hp, ej, h3⟩ := (key j hj).mp h1
      obtain ⟨b, hb3, hb4, h4⟩ := (bas p).mp h3
      refine ⟨b, hb3, hb4, ?_⟩
      unfold uSat
      rw [if_neg hn]
      exact ⟨p, hp, h4, by rw [← ej]; exact h2⟩
theorem u_runF (tx : Nat → Int32) (s : Nat) (os : List oT) (bm bl fm fl : Nat → Int32) : vRun tx s os bm bl fm fl false = false := by
  cases os <;> rfl
theorem u_run {tx : Nat → Int32} {s : Nat} (hs : s ≤ 80) : ∀ (os : List oT) (bm bl fm fl : Nat → Int32), (∀ t ∈ os, uOk t) → uStl s bm bl → (∃ j, j ≤ s ∧ ¬ bm j = 0) → (vRun tx s os bm bl fm fl true = true ↔ ∃ j, j ≤ s ∧ ¬ bm j = 0 ∧ uSat tx s os j) := by
  intro os
  induction os with
  | nil =>
    intro bm bl fm fl _ _ ⟨j, hj, h⟩
    exact ⟨fun _ => ⟨j, hj, h, trivial⟩, fun _ => rfl⟩
  | cons t os ih =>
    intro bm bl fm fl hok hb hne
    have ok := hok t List.mem_cons_self
    rw [u_step ok hs os bm bl fm fl hb hne]
    unfold vRun
    by_cases ha : kAny (kSet (s + 1) 0 (-1) (vBm t s bm bl (vFm t tx s fm) (kSet (s + 1) 0 (-1) (vFm t tx s fm) fl)) (vBl t s bm bl)) s 0 (nI s)
    · rw [decide_eq_true ha]
      have hne2 := (u_any hs (u_stl s _ _) 0 (nI s)).mp ha
      exact ih _ _ _ _ (fun q hq => hok q (List.mem_cons_of_mem _ hq)) (u_stl s _ _) (by obtain ⟨j, a, b, _⟩ := hne2; exact ⟨j, a, b⟩)
    · rw [decide_eq_false ha, u_runF]
      constructor
      · intro z; exact absurd z (by decide)
      · rintro ⟨j, hj, h1, _⟩
        exact absurd ((u_any hs (u_stl s _ _) 0 (nI s)).mpr ⟨j, hj, h1, nI_pos' (by omega), nI_le hj (by omega)⟩) ha
/-- the class's search, from its start on -/
theorem u_holds {tx : Nat → Int32} {s : Nat} (hs : s ≤ 80) (os : List oT) (hok : ∀ t ∈ os, uOk t) (bm bl fm fl : Nat → Int32) : vRun tx s os (kStart (s + 1) 0 bm) (kSet (s + 1) 0 (-1) (kStart (s + 1) 0 bm) bl) fm fl true = true ↔ uSat tx s os 0 := by
  have z0 : ∀ j, j ≤ s → (¬ kStart (s + 1) 0 bm j = 0 ↔ j = 0) := by
    intro j hj
    rw [u_start, if_pos (by omega)]
    by_cases e : j = 0
    · rw [if_pos e]; exact ⟨fun _ => e, fun _ => by decide⟩
    · rw [if_neg e]; exact ⟨fun q => absurd rfl q, fun q => absurd q e⟩
  rw [u_run hs os _ _ fm fl hok (u_stl s _ _) ⟨0, by omega, (z0 0 (by omega)).mpr rfl⟩]
  constructor
  · rintro ⟨j, hj, h1, h2⟩
    have := (z0 j hj).mp h1
    subst this
    exact h2
  · intro h; exact ⟨0, by omega, (z0 0 (by omega)).mpr rfl, h⟩

/-! The reference's search as places that there are -/
def uEx (F : Nat → Nat → (Nat → Int32) → Bool) (C : (Nat → Int32) → Bool) (s : Nat) : Nat → Nat → (Nat → Int32) → Prop
  | 0, _, pl => C pl = true
  | d + 1, k, pl => ∃ p, p < s ∧ F k p pl = true ∧ uEx F C s d (k + 1) (upd pl k (nI p))
def uBel (k : Nat) (a b : Nat → Int32) : Prop := ∀ i, i < k → a i = b i
theorem u_belU {k : Nat} {a b : Nat → Int32} (h : uBel k a b) (x : Int32) : uBel (k + 1) (upd a k x) (upd b k x) := by
  intro i hi
  by_cases e : i = k
  · subst e; rw [pk_us, pk_us]
  · rw [pk_un e, pk_un e]; exact h i (by omega)
theorem u_belS (k : Nat) (a : Nat → Int32) (x : Int32) : uBel k (upd a k x) a := fun i hi => pk_un (by omega)
theorem u_exB {F : Nat → Nat → (Nat → Int32) → Bool} {C : (Nat → Int32) → Bool} {s T : Nat} (hF : ∀ k p a b, uBel k a b → F k p a = F k p b) (hC : ∀ a b, uBel T a b → C a = C b) : ∀ (d k : Nat) (a b : Nat → Int32), k + d = T → uBel k a b → uEx F C s d k a → uEx F C s d k b := by
  intro d
  induction d with
  | zero => intro k a b hk h q; show C b = true; rw [← hC a b (by rw [← hk]; exact h)]; exact q
  | succ d ih =>
    intro k a b hk h ⟨p, hp, h1, h2⟩
    exact ⟨p, hp, by rw [← hF k p a b h]; exact h1, ih (k + 1) _ _ (by omega) (u_belU h _) h2⟩
theorem u_sr {F : Nat → Nat → (Nat → Int32) → Bool} {C : (Nat → Int32) → Bool} {s T : Nat} (hF : ∀ k p a b, uBel k a b → F k p a = F k p b) (hC : ∀ a b, uBel T a b → C a = C b) : ∀ (d k : Nat) (pl : Nat → Int32), k + d = T → ((mSr F C s d k pl).1 = true ↔ uEx F C s d k pl) ∧ uBel k (mSr F C s d k pl).2 pl := by
  intro d
  induction d with
  | zero => intro k pl hk; exact ⟨Iff.rfl, fun i hi => rfl⟩
  | succ d ih =>
    intro k pl hk
    have lp : ∀ (r p : Nat) (pl : Nat → Int32), ((mLoop (F k) k (mSr F C s d (k + 1)) r p pl).1 = true ↔ ∃ q, p ≤ q ∧ q < p + r ∧ F k q pl = true ∧ uEx F C s d (k + 1) (upd pl k (nI q))) ∧ uBel k (mLoop (F k) k (mSr F C s d (k + 1)) r p pl).2 pl := by
      intro r
      induction r with
      | zero =>
        intro p pl
        refine ⟨⟨fun z => absurd z (by show ¬ false = true; decide), fun ⟨q, h1, h2, _⟩ => by omega⟩, ?_⟩
        exact u_belS k pl _
      | succ r ih2 =>
        intro p pl
        have eF : F k p (upd pl k (nI p)) = F k p pl := hF k p _ _ (u_belS k pl _)
        obtain ⟨g1, g2⟩ := ih (k + 1) (upd pl k (nI p)) (by omega)
        have g3 : uBel k (mSr F C s d (k + 1) (upd pl k (nI p))).2 pl := fun i hi => by rw [g2 i (by omega)]; exact u_belS k pl _ i hi
        unfold mLoop
        rw [eF]
        by_cases h1 : F k p pl = true
        · rw [if_pos h1]
          by_cases h2 : (mSr F C s d (k + 1) (upd pl k (nI p))).1 = true
          · rw [if_pos h2]
            exact ⟨⟨fun _ => ⟨p, by omega, by omega, h1, g1.mp h2⟩, fun _ => h2⟩, g3⟩
          · rw [if_neg h2]
            obtain ⟨a1, a2⟩ := ih2 (p + 1) (mSr F C s d (k + 1) (upd pl k (nI p))).2
            refine ⟨?_, fun i hi => by rw [a2 i hi]; exact g3 i hi⟩
            rw [a1]
            constructor
            · rintro ⟨q, b1, b2, b3, b4⟩
              exact ⟨q, by omega, by omega, by rw [← hF k q _ _ g3]; exact b3, u_exB hF hC d (k + 1) _ _ (by omega) (u_belU g3 _) b4⟩
            · rintro ⟨q, b1, b2, b3, b4⟩
              have : q ≠ p := by
                intro e; subst e; exact h2 (g1.mpr b4)
              exact ⟨q, by omega, by omega, by rw [hF k q _ _ g3]; exact b3, u_exB hF hC d (k + 1) _ _ (by omega) (u_belU (fun i hi => (g3 i hi).symm) _) b4⟩
        · rw [if_neg h1]
          have g4 : uBel k (upd pl k (nI p)) pl := u_belS k pl _
          obtain ⟨a1, a2⟩ := ih2 (p + 1) (upd pl k (nI p))
          refine ⟨?_, fun i hi => by rw [a2 i hi]; exact g4 i hi⟩
          rw [a1]
          constructor
          · rintro ⟨q, b1, b2, b3, b4⟩
            exact ⟨q, by omega, by omega, by rw [← hF k q _ _ g4]; exact b3, u_exB hF hC d (k + 1) _ _ (by omega) (u_belU g4 _) b4⟩
          · rintro ⟨q, b1, b2, b3, b4⟩
            have : q ≠ p := by
              intro e; subst e; exact h1 b3
            exact ⟨q, by omega, by omega, by rw [hF k q _ _ g4]; exact b3, u_exB hF hC d (k + 1) _ _ (by omega) (u_belU (fun i hi => (g4 i hi).symm) _) b4⟩
    obtain ⟨a1, a2⟩ := lp s 0 pl
    refine ⟨?_, a2⟩
    show (mLoop (F k) k (mSr F C s d (k + 1)) s 0 pl).1 = true ↔ _
    rw [a1]
    constructor
    · rintro ⟨q, _, b2, b3, b4⟩; exact ⟨q, by omega, b3, b4⟩
    · rintro ⟨q, b2, b3, b4⟩; exact ⟨q, by omega, by omega, b3, b4⟩
/-! The levels: the options that must stand -/
def uCnt (mk : Nat → Int32) (rr : Nat) : Nat → Nat
  | 0 => 0
  | i + 1 => uCnt mk rr i + (if mk (3 * rr + i) &&& 2 = 0 then 1 else 0)
theorem u_cntS {mk : Nat → Int32} {rr i : Nat} (h : mk (3 * rr + i) &&& 2 = 0) : uCnt mk rr (i + 1) = uCnt mk rr i + 1 := by
  show uCnt mk rr i + _ = _
  rw [if_pos h]
theorem u_cntN {mk : Nat → Int32} {rr i : Nat} (h : ¬ mk (3 * rr + i) &&& 2 = 0) : uCnt mk rr (i + 1) = uCnt mk rr i := by
  show uCnt mk rr i + _ = _
  rw [if_neg h]; rfl
theorem u_cntM (mk : Nat → Int32) (rr : Nat) : ∀ (d i : Nat), uCnt mk rr i ≤ uCnt mk rr (i + d) := by
  intro d
  induction d with
  | zero => intro i; exact Nat.le_refl _
  | succ d ih =>
    intro i
    have := ih i
    show _ ≤ uCnt mk rr (i + d) + _
    omega
theorem u_cntL (mk : Nat → Int32) (rr : Nat) : ∀ i, uCnt mk rr i ≤ i := by
  intro i
  induction i with
  | zero => exact Nat.le_refl _
  | succ i ih =>
    show uCnt mk rr i + _ ≤ _
    split <;> omega
theorem u_cntT {mk : Nat → Int32} {rr i j : Nat} (h : mk (3 * rr + j) &&& 2 = 0) (hj : j < i) : uCnt mk rr j < uCnt mk rr i := by
  have e := u_cntS h
  have := u_cntM mk rr (i - (j + 1)) (j + 1)
  rw [show j + 1 + (i - (j + 1)) = i by omega] at this
  omega
theorem u_lvT (mk : Nat → Int32) (rr : Nat) : ∀ (r i T : Nat), T = uCnt mk rr i → mLvT mk rr r i T = uCnt mk rr (i + r) := by
  intro r
  induction r with
  | zero => intro i T h; exact h
  | succ r ih =>
    intro i T h
    unfold mLvT
    by_cases q : mk (3 * rr + i) &&& 2 = 0
    · rw [if_pos q, ih (i + 1) (T + 1) (by rw [u_cntS q, h]), show i + 1 + r = i + (r + 1) by omega]
    · rw [if_neg q, ih (i + 1) T (by rw [u_cntN q, h]), show i + 1 + r = i + (r + 1) by omega]
theorem u_lvN (mk : Nat → Int32) (rr : Nat) : ∀ (r i T : Nat) (g : Nat → Nat), T = uCnt mk rr i → (∀ j, j < i → mk (3 * rr + j) &&& 2 = 0 → g (uCnt mk rr j) = 3 * rr + j) → ∀ j, j < i + r → mk (3 * rr + j) &&& 2 = 0 → mLvN mk rr r i T g (uCnt mk rr j) = 3 * rr + j := by
  intro r
  induction r with
  | zero => intro i T g h hg j hj hp; exact hg j hj hp
  | succ r ih =>
    intro i T g h hg j hj hp
    unfold mLvN
    by_cases q : mk (3 * rr + i) &&& 2 = 0
    · rw [if_pos q]
      refine ih (i + 1) (T + 1) _ (by rw [u_cntS q, h]) ?_ j (by omega) hp
      intro j2 hj2 hp2
      by_cases e : j2 = i
      · subst e; rw [if_pos h.symm]
      · have := u_cntT hp2 (show j2 < i by omega)
        rw [if_neg (by omega)]
        exact hg j2 (by omega) hp2
    · rw [if_neg q]
      refine ih (i + 1) T _ (by rw [u_cntN q, h]) ?_ j (by omega) hp
      intro j2 hj2 hp2
      by_cases e : j2 = i
      · subst e; exact absurd hp2 q
      · exact hg j2 (by omega) hp2
theorem u_cntE (mk : Nat → Int32) (rr : Nat) : ∀ (n k : Nat), k < uCnt mk rr n → ∃ j, j < n ∧ mk (3 * rr + j) &&& 2 = 0 ∧ uCnt mk rr j = k := by
  intro n
  induction n with
  | zero => intro k h; exact absurd h (by show ¬ k < 0; omega)
  | succ n ih =>
    intro k h
    by_cases q : mk (3 * rr + n) &&& 2 = 0
    · rw [u_cntS q] at h
      by_cases e : k = uCnt mk rr n
      · exact ⟨n, by omega, q, e.symm⟩
      · obtain ⟨j, a, b⟩ := ih k (by omega)
        exact ⟨j, by omega, b⟩
    · rw [u_cntN q] at h
      obtain ⟨j, a, b⟩ := ih k h
      exact ⟨j, by omega, b⟩
theorem u_kk {mk : Nat → Int32} {rr on : Nat} {lN : Nat → Nat} (hN : ∀ j, j < on → mk (3 * rr + j) &&& 2 = 0 → lN (uCnt mk rr j) = 3 * rr + j) {i : Nat} (hi : i ≤ on) : ∀ (r k : Nat), k + r = uCnt mk rr on → k ≤ uCnt mk rr i → mKk lN (3 * rr + i) r k = uCnt mk rr i := by
  intro r
  have hm : uCnt mk rr i ≤ uCnt mk rr on := by
    have := u_cntM mk rr (on - i) i
    rw [show i + (on - i) = on by omega] at this
    exact this
  induction r with
  | zero => intro k h1 h2; show k = _; omega
  | succ r ih =>
    intro k h1 h2
    obtain ⟨j, a, b, c⟩ := u_cntE mk rr on k (by omega)
    have e := hN j a b
    rw [c] at e
    unfold mKk
    by_cases q : lN k < 3 * rr + i
    · rw [if_pos q]
      have := u_cntT b (show j < i by omega)
      exact ih (k + 1) (by omega) (by omega)
    · rw [if_neg q]
      have : i ≤ j := by omega
      have := u_cntM mk rr (j - i) i
      rw [show i + (j - i) = j by omega] at this
      omega

theorem u_andP (n k : Nat) : n &&& 2 ^ k = if n.testBit k = true then 2 ^ k else 0 := by
  apply Nat.eq_of_testBit_eq
  intro i
  rw [Nat.testBit_and, Nat.testBit_two_pow]
  by_cases e : k = i
  · subst e
    by_cases h : n.testBit k = true
    · rw [if_pos h, h, Nat.testBit_two_pow]; simp
    · rw [if_neg h, Nat.zero_testBit, Bool.eq_false_iff.mpr h]; rfl
  · rw [decide_eq_false e, Bool.and_false]
    split
    · rw [Nat.testBit_two_pow, decide_eq_false e]
    · rw [Nat.zero_testBit]
theorem u_and2 (x : Int32) : x &&& 2 = 0 ∨ x &&& 2 = 2 := by
  have e : (x &&& 2).toBitVec.toNat = if x.toBitVec.toNat.testBit 1 = true then 2 ^ 1 else 0 := by
    rw [Int32.toBitVec_and, BitVec.toNat_and]
    exact u_andP _ 1
  by_cases h : x.toBitVec.toNat.testBit 1 = true
  · rw [if_pos h] at e
    exact Or.inr (Int32.toBitVec_inj.mp (BitVec.eq_of_toNat_eq e))
  · rw [if_neg h] at e
    exact Or.inl (Int32.toBitVec_inj.mp (BitVec.eq_of_toNat_eq e))
theorem u_any2 (F : Nat → Bool) : ∀ (r p : Nat), mAny F r p = true ↔ ∃ q, p ≤ q ∧ q < p + r ∧ F q = true := by
  intro r
  induction r with
  | zero => intro p; exact ⟨fun z => absurd z (by show ¬ false = true; decide), fun ⟨q, a, b, _⟩ => by omega⟩
  | succ r ih =>
    intro p
    unfold mAny
    rw [Bool.or_eq_true, ih]
    constructor
    · rintro (h | ⟨q, a, b, c⟩)
      · exact ⟨p, by omega, by omega, h⟩
      · exact ⟨q, by omega, by omega, c⟩
    · rintro ⟨q, a, b, c⟩
      by_cases e : q = p
      · subst e; exact Or.inl c
      · exact Or.inr ⟨q, by omega, by omega, c⟩
def uRls (P : oT → Nat → Prop) : List oT → Nat → Prop
  | [], _ => True
  | o :: os, i => P o i ∧ uRls P os (i + 1)
/-- an option of the class and the reference's option x, on a text -/
def uOpt (ct tx mk lst spn cs : Nat → Int32) (cN : Nat → Nat) (tx1 : Nat → Int32) (t s rr : Nat) (o : oT) (i : Nat) : Prop :=
  (o.1 = true ↔ ¬ mk (3 * rr + i) &&& 2 = 0) ∧ (o.2.1 = true ↔ ¬ mk (3 * rr + i) &&& 4 = 0) ∧ o.2.2.2.2.1 = cN (3 * rr + i) ∧ 1 ≤ cN (3 * rr + i) ∧ cN (3 * rr + i) ≤ 6 ∧ cs (3 * rr + i) = nI (cN (3 * rr + i)) ∧
  ∀ p b, p < s → b ≤ 80 → (mFd ct tx mk lst spn (3 * rr + i) t p (cN (3 * rr + i)) s (nI b) = true ↔ uHit o tx1 s p b)
section SRCH
variable {ct tx mk lst spn cs : Nat → Int32} {cN lN : Nat → Nat} {T t s rr on : Nat} {tx1 : Nat → Int32}
theorem u_bs {pl : Nat → Int32} {x k b : Nat} (hx : x < 18) (hb : (k = 0 ∧ b = 0) ∨ (0 < k ∧ pl (k - 1) + cs (mIx (lN (k - 1))) = nI b)) : mBs mk cs pl lN x k = nI (if mk x &&& 4 = 0 then 0 else b) := by
  unfold mBs
  rw [show mIx x = x from nI_clamp (by omega)]
  by_cases h : mk x &&& 4 = 0
  · rw [if_pos h, if_pos h]; rfl
  · rw [if_neg h, if_neg h]
    rcases hb with ⟨h1, h2⟩ | ⟨h1, h2⟩
    · rw [if_pos h1, h2]; rfl
    · rw [if_neg (by omega), h2]
theorem u_bsB {a b : Nat → Int32} {x k : Nat} (h : uBel k a b) : mBs mk cs a lN x k = mBs mk cs b lN x k := by
  unfold mBs
  by_cases h0 : k = 0
  · rw [if_pos h0, if_pos h0]
  · rw [h (k - 1) (by omega)]
theorem u_freeB {a b : Nat → Int32} {x k : Nat} (hk : mKk lN x T 0 ≤ k) (h : uBel k a b) : mFree ct tx mk lst spn cs a cN lN T t s x = mFree ct tx mk lst spn cs b cN lN T t s x := by
  unfold mFree
  rw [u_bsB (fun i hi => h i (by omega))]
theorem u_clB (hT : ∀ x, mKk lN x T 0 ≤ T) {a b : Nat → Int32} (h : uBel T a b) : ∀ (r i : Nat), mCl ct tx mk lst spn cs a cN lN T t s rr r i = mCl ct tx mk lst spn cs b cN lN T t s rr r i := by
  intro r
  induction r with
  | zero => intro i; rfl
  | succ r ih =>
    intro i
    unfold mCl
    rw [u_freeB (hT _) h, ih]
theorem u_exA {F : Nat → Nat → (Nat → Int32) → Bool} {A C C' : (Nat → Int32) → Bool} (hc : ∀ pl, C pl = (A pl && C' pl)) {k0 : Nat} (hA : ∀ a b, uBel k0 a b → A a = A b) : ∀ (d k : Nat) (pl : Nat → Int32), k0 ≤ k → (uEx F C s d k pl ↔ A pl = true ∧ uEx F C' s d k pl) := by
  intro d
  induction d with
  | zero => intro k pl hk; show C pl = true ↔ A pl = true ∧ C' pl = true; rw [hc, Bool.and_eq_true]
  | succ d ih =>
    intro k pl hk
    have e : ∀ p, A (upd pl k (nI p)) = A pl := fun p => hA _ _ (fun i hi => pk_un (by omega))
    constructor
    · rintro ⟨p, h1, h2, h3⟩
      have := (ih (k + 1) _ (by omega)).mp h3
      rw [e] at this
      exact ⟨this.1, p, h1, h2, this.2⟩
    · rintro ⟨h0, p, h1, h2, h3⟩
      exact ⟨p, h1, h2, (ih (k + 1) _ (by omega)).mpr ⟨by rw [e]; exact h0, h3⟩⟩
theorem u_kkT (lN : Nat → Nat) (x : Nat) : ∀ (r k : Nat), mKk lN x r k ≤ k + r := by
  intro r
  induction r with
  | zero => intro k; exact Nat.le_refl _
  | succ r ih =>
    intro k
    unfold mKk
    split
    · have := ih (k + 1); omega
    · omega
theorem u_srch (hs : s ≤ 80) (hrr : rr < 6) (hon : on ≤ 3) (eT : T = uCnt mk rr on) (hN : ∀ j, j < on → mk (3 * rr + j) &&& 2 = 0 → lN (uCnt mk rr j) = 3 * rr + j) :
    ∀ (os : List oT) (i : Nat), i + os.length = on → uRls (uOpt ct tx mk lst spn cs cN tx1 t s rr) os i → ∀ (pl : Nat → Int32) (b : Nat), b ≤ s → ((uCnt mk rr i = 0 ∧ b = 0) ∨ (0 < uCnt mk rr i ∧ pl (uCnt mk rr i - 1) + cs (mIx (lN (uCnt mk rr i - 1))) = nI b)) →
      (uEx (mFk ct tx mk lst spn cs cN lN t s) (fun pl => mCl ct tx mk lst spn cs pl cN lN T t s rr os.length i) s (T - uCnt mk rr i) (uCnt mk rr i) pl ↔ uSat tx1 s os b) := by
  intro os
  induction os with
  | nil =>
    intro i hi _ pl b hb hbase
    have : T - uCnt mk rr i = 0 := by rw [eT, show i = on by simpa using hi]; omega
    rw [this]
    exact ⟨fun _ => trivial, fun _ => rfl⟩
  | cons o os ih =>
    intro i hi hR pl b hb hbase
    obtain ⟨⟨o1, o2, o3, o4, o5, o6, o7⟩, hR2⟩ := hR
    have hi2 : i + 1 + os.length = on := by have : (o :: os).length = os.length + 1 := rfl; omega
    have hx : 3 * rr + i < 18 := by omega
    have hcm : uCnt mk rr i ≤ T := by
      have := u_cntM mk rr (on - i) i
      rw [show i + (on - i) = on by omega] at this
      omega
    have hl : ∀ p, p ≤ s → uHit o tx1 s p (if o.2.1 = true then b else 0) → p < s := by
      intro p hp h
      have := u_stand hs (by omega) hp h.1
      omega
    have ebr : (if mk (3 * rr + i) &&& 4 = 0 then 0 else b) = if o.2.1 = true then b else 0 := by
      by_cases h : mk (3 * rr + i) &&& 4 = 0
      · rw [if_pos h, if_neg (fun z => (o2.mp z) h)]
      · rw [if_neg h, if_pos (o2.mpr h)]
    have hbr : (if o.2.1 = true then b else 0) ≤ 80 := by split <;> omega
    have base := u_bs (mk := mk) hx hbase
    rw [ebr] at base
    unfold uSat
    by_cases hn : mk (3 * rr + i) &&& 2 = 0
    · -- the option must stand: it is the next level
      rw [if_neg (fun z => (o1.mp z) hn)]
      have ec := u_cntS hn
      have hlt : uCnt mk rr i < T := by
        have := u_cntT hn (show i < on by omega)
        omega
      have eN := hN i (by omega) hn
      obtain ⟨d, hd⟩ : ∃ d, T - uCnt mk rr i = d + 1 := ⟨T - uCnt mk rr i - 1, by omega⟩
      rw [hd]
      have hC : (fun pl => mCl ct tx mk lst spn cs pl cN lN T t s rr (o :: os).length i) = fun pl => mCl ct tx mk lst spn cs pl cN lN T t s rr os.length (i + 1) := by
        funext pl
        show mCl ct tx mk lst spn cs pl cN lN T t s rr (os.length + 1) i = _
        have h2 : ¬ mk (3 * rr + i) &&& 2 = 2 := by rw [hn]; decide
        conv => lhs; unfold mCl
        rw [if_neg h2]
      rw [hC]
      have hF : ∀ p, p < s → (mFk ct tx mk lst spn cs cN lN t s (uCnt mk rr i) p pl = true ↔ uHit o tx1 s p (if o.2.1 = true then b else 0)) := by
        intro p hp
        show mFd ct tx mk lst spn (lN (uCnt mk rr i)) t p (cN (lN (uCnt mk rr i))) s (mBs mk cs pl lN (lN (uCnt mk rr i)) (uCnt mk rr i)) = true ↔ _
        rw [eN, base]
        exact o7 p _ hp hbr
      have next : ∀ p, p + cN (3 * rr + i) ≤ s → (uEx (mFk ct tx mk lst spn cs cN lN t s) (fun pl => mCl ct tx mk lst spn cs pl cN lN T t s rr os.length (i + 1)) s d (uCnt mk rr i + 1) (upd pl (uCnt mk rr i) (nI p)) ↔ uSat tx1 s os (p + o.2.2.2.2.1)) := by
        intro p hp
        have q := ih (i + 1) hi2 hR2 (upd pl (uCnt mk rr i) (nI p)) (p + o.2.2.2.2.1) (by omega) (Or.inr ⟨by omega, by rw [ec, Nat.add_sub_cancel, pk_us, eN, show mIx (3 * rr + i) = 3 * rr + i from nI_clamp (by omega), o6, nI_add, o3]⟩)
        rw [ec, show T - (uCnt mk rr i + 1) = d by omega] at q
        exact q
      constructor
      · rintro ⟨p, h1, h2, h3⟩
        have h4 := (hF p h1).mp h2
        have h5 := u_stand hs (by omega) (by omega) h4.1
        exact ⟨p, by omega, h4, (next p (by omega)).mp h3⟩
      · rintro ⟨p, h1, h2, h3⟩
        have h5 := u_stand hs (by omega) h1 h2.1
        exact ⟨p, hl p h1 h2, (hF p (hl p h1 h2)).mpr h2, (next p (by omega)).mpr h3⟩
    · -- the option must not stand
      rw [if_pos (o1.mpr hn)]
      have ec := u_cntN hn
      have h2 : mk (3 * rr + i) &&& 2 = 2 := (u_and2 _).resolve_left hn
      have ek : mKk lN (3 * rr + i) T 0 = uCnt mk rr i := u_kk hN (by omega) T 0 (by omega) (by omega)
      have hC : ∀ pl, (fun pl => mCl ct tx mk lst spn cs pl cN lN T t s rr (o :: os).length i) pl = ((fun pl => mFree ct tx mk lst spn cs pl cN lN T t s (3 * rr + i)) pl && (fun pl => mCl ct tx mk lst spn cs pl cN lN T t s rr os.length (i + 1)) pl) := by
        intro pl
        show mCl ct tx mk lst spn cs pl cN lN T t s rr (os.length + 1) i = _
        conv => lhs; unfold mCl
        rw [if_pos h2]
      rw [u_exA hC (k0 := uCnt mk rr i) (fun a b h => u_freeB (by omega) h) _ _ _ (Nat.le_refl _)]
      have q := ih (i + 1) hi2 hR2 pl b hb (by rw [ec]; exact hbase)
      rw [ec] at q
      rw [q]
      have hfree : mFree ct tx mk lst spn cs pl cN lN T t s (3 * rr + i) = true ↔ ¬ ∃ p, p ≤ s ∧ uHit o tx1 s p (if o.2.1 = true then b else 0) := by
        unfold mFree
        rw [Bool.not_eq_true', Bool.eq_false_iff, Ne, u_any2, ek, base]
        constructor
        · rintro h ⟨p, h1, h3⟩
          exact h ⟨p, by omega, by have := hl p h1 h3; omega, (o7 p _ (hl p h1 h3) hbr).mpr h3⟩
        · rintro h ⟨p, _, h1, h3⟩
          exact h ⟨p, by omega, (o7 p _ (by omega) hbr).mp h3⟩
      rw [hfree]
/-- the reference's search -/
theorem u_ho (hs : s ≤ 80) (hrr : rr < 6) (hon : on ≤ 3) (os : List oT) (hlen : os.length = on) (hR : uRls (uOpt ct tx mk lst spn cs cN tx1 t s rr) os 0) (pl : Nat → Int32) :
    (mHo ct tx mk lst spn cs cN (mLvN mk rr on 0 0 (fun _ => 0)) (mLvT mk rr on 0 0) t s rr on pl).1 = true ↔ ¬ on = 0 ∧ uSat tx1 s os 0 := by
  have eT : mLvT mk rr on 0 0 = uCnt mk rr on := by rw [u_lvT mk rr on 0 0 rfl, Nat.zero_add]
  have hN : ∀ j, j < on → mk (3 * rr + j) &&& 2 = 0 → mLvN mk rr on 0 0 (fun _ => 0) (uCnt mk rr j) = 3 * rr + j := by
    intro j hj hp
    exact u_lvN mk rr on 0 0 (fun _ => 0) rfl (fun j2 h2 => absurd h2 (by omega)) j (by omega) hp
  have main := u_srch (ct := ct) (tx := tx) (mk := mk) (lst := lst) (spn := spn) (cs := cs) (cN := cN) (t := t) (tx1 := tx1) hs hrr hon eT hN os 0 (by omega) hR pl 0 (by omega) (Or.inl ⟨rfl, rfl⟩)
  rw [show uCnt mk rr 0 = 0 from rfl, Nat.sub_zero, hlen] at main
  unfold mHo
  by_cases h0 : mLvT mk rr on 0 0 = 0
  · rw [if_pos h0]
    rw [h0] at main
    by_cases h1 : on = 0
    · rw [if_pos h1]; exact ⟨fun z => absurd z (by show ¬ false = true; decide), fun z => absurd h1 z.1⟩
    · rw [if_neg h1, ← main]
      rw [h0]
      exact ⟨fun z => ⟨h1, z⟩, fun z => z.2⟩
  · rw [if_neg h0]
    have h1 : ¬ on = 0 := by intro z; apply h0; rw [eT, z]; rfl
    have hT : ∀ x, mKk (mLvN mk rr on 0 0 (fun _ => 0)) x (mLvT mk rr on 0 0) 0 ≤ mLvT mk rr on 0 0 := fun x => by have := u_kkT (mLvN mk rr on 0 0 (fun _ => 0)) x (mLvT mk rr on 0 0) 0; omega
    rw [(u_sr (T := mLvT mk rr on 0 0) (fun k p a b h => by
      show mFd _ _ _ _ _ _ _ _ _ _ _ = mFd _ _ _ _ _ _ _ _ _ _ _
      rw [u_bsB h]) (fun a b h => u_clB hT h on 0) (mLvT mk rr on 0 0) 0 pl (by omega)).1]
    rw [← main]
    exact ⟨fun z => ⟨h1, z⟩, fun z => z.2⟩
end SRCH

theorem u_case (a b : Int32) : (oFo true a = oFo true b) ↔ (mUp a = mUp b) := by
  have key : ∀ x : Int32, (oFo true x).toInt = if 65 ≤ x.toInt ∧ x.toInt ≤ 90 then x.toInt + 32 else x.toInt := by
    intro x
    unfold oFo
    rw [if_pos rfl]
    have e65 : (65 : Int32).toInt = 65 := by decide
    have e90 : (90 : Int32).toInt = 90 := by decide
    have e97 : (97 : Int32).toInt = 97 := by decide
    by_cases h1 : x < 65
    · rw [if_pos h1]; rw [Int32.lt_iff_toInt_lt, e65] at h1; rw [if_neg (by omega)]
    · rw [if_neg h1]; rw [Int32.lt_iff_toInt_lt, e65] at h1
      by_cases h2 : 90 < x
      · rw [if_pos h2]; rw [Int32.lt_iff_toInt_lt, e90] at h2; rw [if_neg (by omega)]
      · rw [if_neg h2]; rw [Int32.lt_iff_toInt_lt, e90] at h2
        have q : (x - 65).toInt = x.toInt - 65 := by rw [u_subI (by omega) (by omega), e65]
        rw [if_pos (by omega), u_addI (by omega) (by omega), q, e97]; omega
  have key2 : ∀ x : Int32, (mUp x).toInt = if 97 ≤ x.toInt ∧ x.toInt ≤ 122 then x.toInt - 32 else x.toInt := by
    intro x
    unfold mUp
    have e65 : (122 : Int32).toInt = 122 := by decide
    have e90 : (32 : Int32).toInt = 32 := by decide
    have e97 : (97 : Int32).toInt = 97 := by decide
    by_cases h1 : x < 97
    · rw [if_pos h1]; rw [Int32.lt_iff_toInt_lt, e97] at h1; rw [if_neg (by omega)]
    · rw [if_neg h1]; rw [Int32.lt_iff_toInt_lt, e97] at h1
      by_cases h2 : 122 < x
      · rw [if_pos h2]; rw [Int32.lt_iff_toInt_lt, e65] at h2; rw [if_neg (by omega)]
      · rw [if_neg h2]; rw [Int32.lt_iff_toInt_lt, e65] at h2
        rw [if_pos (by omega), u_subI (by omega) (by omega), e90]
  rw [← Int32.toInt_inj, ← Int32.toInt_inj, key, key, key2, key2]
  split <;> split <;> split <;> split <;> omega
section STND
variable {ct tx mk lst spn : Nat → Int32} {t s x c : Nat} {tx1 : Nat → Int32} {ac : Bool} {ctL : Int64}
theorem u_same9 (hs : s ≤ 80) (hc : c ≤ 6) (hac : ac = decide (mk (mIx x) &&& 1 = 1)) (hct : ∀ k, k < c → ct (6 * x + k) = oB (nI c) ctL (nI k)) (htx : ∀ j, j < s → tx (80 * t + j) = tx1 j) {p : Nat} (hp : p + c ≤ s) : ∀ (r k : Nat), k + r = c → (oSame ac c ctL tx1 s (nI p) r k = true ↔ mSm (decide (mk (mIx x) &&& 1 = 1)) ct tx x t p r k = true) := by
  intro r
  induction r with
  | zero => intro k hk; exact ⟨fun _ => rfl, fun _ => rfl⟩
  | succ r ih =>
    intro k hk
    unfold oSame mSm
    rw [Bool.and_eq_true, Bool.and_eq_true, ih (k + 1) (by omega), decide_eq_true_eq, decide_eq_true_eq]
    have e1 : sAt tx1 s (nI p + nI k) = tx (80 * t + p + k) := by
      unfold sAt
      rw [nI_add, if_pos ⟨nI_pos' (by omega), nI_lt (by omega) (by omega)⟩, nI_clamp (by omega), Nat.add_assoc, htx (p + k) (by omega)]
    rw [e1, ← hct k (by omega), ← hac]
    have e2 : (oFo ac (tx (80 * t + p + k)) = oFo ac (ct (6 * x + k))) ↔ (if ac = true then mUp (ct (6 * x + k)) = mUp (tx (80 * t + p + k)) else ct (6 * x + k) = tx (80 * t + p + k)) := by
      cases ac
      · rw [if_neg (by decide)]; exact ⟨fun h => h.symm, fun h => h.symm⟩
      · rw [if_pos rfl, u_case]; exact ⟨fun h => h.symm, fun h => h.symm⟩
    rw [e2]
theorem u_fd (hs : s ≤ 80) (hc : c ≤ 6) (hx : x < 18) (o : oT) (hoc : o.2.2.2.2.1 = c) (hac : o.2.2.2.2.2.2 = decide (mk x &&& 1 = 1)) (hct : ∀ k, k < c → ct (6 * x + k) = oB (nI c) o.2.2.2.2.2.1 (nI k)) (hle : o.2.2.1 = lst x) (hl1 : -80 ≤ (lst x).toInt) (hl2 : (lst x).toInt ≤ 80) (hs1 : 0 ≤ (spn x).toInt) (hs2 : (spn x).toInt ≤ 80) (hmo : o.2.2.2.1 = if spn x = 0 then 80 else lst x + spn x - nI c) (htx : ∀ j, j < s → tx (80 * t + j) = tx1 j) :
    uOk o ∧ ∀ p b, p < s → b ≤ 80 → (mFd ct tx mk lst spn x t p c s (nI b) = true ↔ uHit o tx1 s p b) := by
  have ex : mIx x = x := nI_clamp (by omega)
  have cI : (nI c).toInt = (c : Int) := nI_toInt (by omega)
  have mI : o.2.2.2.1.toInt = if (spn x).toInt = 0 then 80 else (lst x).toInt + (spn x).toInt - c := by
    rw [hmo]
    by_cases h : spn x = 0
    · rw [if_pos h, if_pos (by rw [h]; rfl)]; rfl
    · have h2 : ¬ (spn x).toInt = 0 := fun z => h (Int32.toInt_inj.mp (by rw [z]; rfl))
      rw [if_neg h, if_neg h2, u_subI (by rw [u_addI (by omega) (by omega)]; omega) (by omega), u_addI (by omega) (by omega), cI]
  constructor
  · refine ⟨by rw [hle]; omega, ?_, by omega⟩
    rw [mI]; split <;> omega
  · intro p b hp hb
    have pI : (nI p).toInt = (p : Int) := nI_toInt (by omega)
    have bI : (nI b).toInt = (b : Int) := nI_toInt (by omega)
    have sI : (nI s).toInt = (s : Int) := nI_toInt (by omega)
    have e0 : (nI p - nI b).toInt = p - b := by rw [u_subI (by omega) (by omega), pI, bI]
    have e1 : (nI p - nI b + nI c).toInt = p - b + c := by rw [u_addI (by omega) (by omega), e0, cI]
    have e2 : (lst x + spn x).toInt = (lst x).toInt + (spn x).toInt := u_addI (by omega) (by omega)
    have e3 : (nI p + nI c).toInt = p + c := by rw [u_addI (by omega) (by omega), pI, cI]
    unfold mFd uHit oSt
    rw [ex, hoc, Bool.and_eq_true, decide_eq_true_eq, hle, mI]
    have c1 : nI s < nI p + nI c ↔ (s : Int) < p + c := by rw [Int32.lt_iff_toInt_lt, e3, sI]
    have c2 : nI p - nI b < lst x ↔ (p : Int) - b < (lst x).toInt := by rw [Int32.lt_iff_toInt_lt, e0]
    have c3 : spn x ≤ 0 ↔ (spn x).toInt ≤ 0 := by rw [Int32.le_iff_toInt_le, Int32.toInt_zero]
    have c4 : nI p - nI b + nI c ≤ lst x + spn x ↔ (p : Int) - b + c ≤ (lst x).toInt + (spn x).toInt := by rw [Int32.le_iff_toInt_le, e1, e2]
    have c5 : nI p + nI c ≤ nI s ↔ (p : Int) + c ≤ s := by rw [Int32.le_iff_toInt_le, e3, sI]
    rw [c5]
    by_cases h1 : (s : Int) < p + c
    · rw [if_pos (c1.mpr h1)]; exact ⟨fun z => absurd z (by decide), fun z => absurd z.1.1 (by omega)⟩
    · rw [if_neg (fun z => h1 (c1.mp z))]
      have sm := u_same9 (tx := tx) (t := t) (tx1 := tx1) (mk := mk) (ct := ct) (x := x) (ac := o.2.2.2.2.2.2) (ctL := o.2.2.2.2.2.1) hs hc (by rw [ex]; exact hac) hct htx (p := p) (by omega) c 0 (by omega)
      rw [ex] at sm
      rw [sm]
      by_cases h2 : (p : Int) - b < (lst x).toInt
      · rw [if_pos (c2.mpr h2)]; exact ⟨fun z => absurd z (by decide), fun z => absurd z.2.1 (by omega)⟩
      · rw [if_neg (fun z => h2 (c2.mp z))]
        by_cases h3 : (spn x).toInt ≤ 0
        · rw [if_pos (c3.mpr h3), if_pos (show (spn x).toInt = 0 by omega)]
          exact ⟨fun z => ⟨⟨by omega, z⟩, by omega, by omega⟩, fun z => z.1.2⟩
        · rw [if_neg (fun z => h3 (c3.mp z)), if_neg (show ¬ (spn x).toInt = 0 by omega)]
          by_cases h4 : (p : Int) - b + c ≤ (lst x).toInt + (spn x).toInt
          · rw [if_pos (c4.mpr h4)]
            exact ⟨fun z => ⟨⟨by omega, z⟩, by omega, by omega⟩, fun z => z.1.2⟩
          · rw [if_neg (fun z => h4 (c4.mp z))]; exact ⟨fun z => absurd z (by decide), fun z => absurd z.2.2 (by omega)⟩
end STND
theorem u_vHold {s : Nat} (hs : s ≤ 80) (tx : Nat → Int32) (os : List oT) (hok : ∀ t ∈ os, uOk t) : vHold tx s os = true ↔ ¬ os = [] ∧ uSat tx s os 0 := by
  cases os with
  | nil => exact ⟨fun z => absurd z (by show ¬ false = true; decide), fun z => absurd rfl z.1⟩
  | cons o os =>
    unfold vHold
    rw [u_holds hs (o :: os) hok]
    exact ⟨fun z => ⟨List.cons_ne_nil _ _, z⟩, fun z => z.2⟩
theorem u_vInd {s : Nat} (hs : s ≤ 80) (tx : Nat → Int32) (os : List oT) (hok : ∀ t ∈ os, uOk t) : vInd tx s os := by
  intro bm bl fm fl hn
  rw [Bool.eq_iff_iff, u_holds hs os hok, u_vHold hs tx os hok]
  exact ⟨fun z => ⟨hn, z⟩, fun z => z.2⟩
/-- an option of the class and the reference's option x -/
def uOp1 (ct mk lst spn cs : Nat → Int32) (cN : Nat → Nat) (rr : Nat) (o : oT) (i : Nat) : Prop :=
  (o.1 = true ↔ ¬ mk (3 * rr + i) &&& 2 = 0) ∧ (o.2.1 = true ↔ ¬ mk (3 * rr + i) &&& 4 = 0) ∧ o.2.2.2.2.1 = cN (3 * rr + i) ∧ 1 ≤ cN (3 * rr + i) ∧ cN (3 * rr + i) ≤ 6 ∧ cs (3 * rr + i) = nI (cN (3 * rr + i)) ∧
  o.2.2.2.2.2.2 = decide (mk (3 * rr + i) &&& 1 = 1) ∧ (∀ k, k < cN (3 * rr + i) → ct (6 * (3 * rr + i) + k) = oB (nI (cN (3 * rr + i))) o.2.2.2.2.2.1 (nI k)) ∧ o.2.2.1 = lst (3 * rr + i) ∧ -80 ≤ (lst (3 * rr + i)).toInt ∧ (lst (3 * rr + i)).toInt ≤ 80 ∧ 0 ≤ (spn (3 * rr + i)).toInt ∧ (spn (3 * rr + i)).toInt ≤ 80 ∧ o.2.2.2.1 = if spn (3 * rr + i) = 0 then 80 else lst (3 * rr + i) + spn (3 * rr + i) - nI (cN (3 * rr + i))
theorem u_ok1 {ct mk lst spn cs : Nat → Int32} {cN : Nat → Nat} {rr i : Nat} {o : oT} (hrr : rr < 6) (hi : i < 3) (h : uOp1 ct mk lst spn cs cN rr o i) : uOk o := by
  obtain ⟨q1, q2, q3, q4, q5, q6, q7, q8, q9, q10, q11, q12, q13, q14⟩ := h
  exact (u_fd (tx := fun _ => 0) (t := 0) (tx1 := fun _ => 0) (s := 80) (by omega) q5 (by omega) o q3 q7 q8 q9 q10 q11 q12 q13 q14 (fun _ _ => rfl)).1
theorem u_op2 {ct tx mk lst spn cs : Nat → Int32} {cN : Nat → Nat} {rr i t s : Nat} {tx1 : Nat → Int32} {o : oT} (hs : s ≤ 80) (htx : ∀ j, j < s → tx (80 * t + j) = tx1 j) (hrr : rr < 6) (hi : i < 3) (h : uOp1 ct mk lst spn cs cN rr o i) : uOpt ct tx mk lst spn cs cN tx1 t s rr o i := by
  obtain ⟨q1, q2, q3, q4, q5, q6, q7, q8, q9, q10, q11, q12, q13, q14⟩ := h
  exact ⟨q1, q2, q3, q4, q5, q6, (u_fd hs q5 (by omega) o q3 q7 q8 q9 q10 q11 q12 q13 q14 htx).2⟩
theorem u_rlOk {ct mk lst spn cs : Nat → Int32} {cN : Nat → Nat} {rr : Nat} (hrr : rr < 6) : ∀ (os : List oT) (i : Nat), i + os.length ≤ 3 → uRls (uOp1 ct mk lst spn cs cN rr) os i → ∀ o ∈ os, uOk o := by
  intro os
  induction os with
  | nil => intro i _ _ o ho; cases ho
  | cons o os ih =>
    intro i hi h o2 ho
    have e : (o :: os).length = os.length + 1 := rfl
    rcases List.mem_cons.mp ho with q | q
    · rw [q]; exact u_ok1 hrr (by omega) h.1
    · exact ih (i + 1) (by omega) h.2 o2 q
theorem u_rlOpt {ct tx mk lst spn cs : Nat → Int32} {cN : Nat → Nat} {rr t s : Nat} {tx1 : Nat → Int32} (hs : s ≤ 80) (htx : ∀ j, j < s → tx (80 * t + j) = tx1 j) (hrr : rr < 6) : ∀ (os : List oT) (i : Nat), i + os.length ≤ 3 → uRls (uOp1 ct mk lst spn cs cN rr) os i → uRls (uOpt ct tx mk lst spn cs cN tx1 t s rr) os i := by
  intro os
  induction os with
  | nil => intro i _ _; trivial
  | cons o os ih =>
    intro i hi h
    have e : (o :: os).length = os.length + 1 := rfl
    exact ⟨u_op2 hs htx hrr (by omega) h.1, ih (i + 1) (by omega) h.2⟩
/-- both searches answer the same -/
theorem u_both {ct tx mk lst spn cs : Nat → Int32} {cN : Nat → Nat} {rr t s on : Nat} {tx1 : Nat → Int32} (hs : s ≤ 80) (htx : ∀ j, j < s → tx (80 * t + j) = tx1 j) (hrr : rr < 6) (os : List oT) (hlen : os.length = on) (hon : on ≤ 3) (h : uRls (uOp1 ct mk lst spn cs cN rr) os 0) (pl : Nat → Int32) :
    (mHo ct tx mk lst spn cs cN (mLvN mk rr on 0 0 (fun _ => 0)) (mLvT mk rr on 0 0) t s rr on pl).1 = vHold tx1 s os := by
  rw [Bool.eq_iff_iff, u_ho hs hrr hon os hlen (u_rlOpt hs htx hrr os 0 (by omega) h) pl, u_vHold hs tx1 os (u_rlOk hrr os 0 (by omega) h)]
  have : on = 0 ↔ os = [] := by rw [← hlen]; exact List.length_eq_zero_iff
  rw [this]
