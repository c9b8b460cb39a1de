/-! Pure (by program: wip/whole/pure/lay.py) -/
/-! The window: a ring against a shifted window -/
theorem u_splN (x : Int32) : sPl x = x.toBitVec.toNat % 32 := by
  show (x &&& 31).toNatClampNeg = _
  rw [pk_and x (m := 31) 5 (by decide), nI_clamp (by omega)]
theorem u_splL (x : Int32) : sPl x < 32 := by rw [u_splN]; omega
theorem u_spl (x : Int32) (k : Nat) : sPl (x + nI k) = (sPl x + k) % 32 := by
  rw [u_splN, u_splN, Int32.toBitVec_add, BitVec.toNat_add]
  have : (nI k).toBitVec.toNat = k % 2 ^ 32 := rfl
  rw [this]
  omega
theorem u_spl0 (x : Int32) : sPl (x + nI 0) = sPl x := by rw [u_spl]; have := u_splL x; omega
/-- how many are held -/
def uN (hl : Nat → Int32) (t : Nat) : Nat → Nat → Nat
  | 0, _ => 0
  | r + 1, k => (if hl (32 * t + k) = 0 then 0 else 1) + uN hl t r (k + 1)
theorem u_cnt (hl : Nat → Int32) (t : Nat) : ∀ (r k c : Nat), mCnt hl t r k (nI c) = nI (c + uN hl t r k) := by
  intro r
  induction r with
  | zero => intro k c; rfl
  | succ r ih =>
    intro k c
    show mCnt hl t r (k + 1) (nI c + (if hl (32 * t + k) = 0 then 0 else 1)) = nI (c + ((if hl (32 * t + k) = 0 then 0 else 1) + uN hl t r (k + 1)))
    by_cases h : hl (32 * t + k) = 0
    · rw [if_pos h, if_pos h, show (0 : Int32) = nI 0 from rfl, nI_add, ih]; congr 1; omega
    · rw [if_neg h, if_neg h, nI_1, ih]; congr 1; omega
theorem u_nE {a b : Nat → Int32} {t t2 : Nat} : ∀ (r k : Nat), (∀ j, k ≤ j → j < k + r → (a (32 * t + j) = 0 ↔ b (32 * t2 + j) = 0)) → uN a t r k = uN b t2 r k := by
  intro r
  induction r with
  | zero => intro k _; rfl
  | succ r ih =>
    intro k h
    show (if a (32 * t + k) = 0 then 0 else 1) + uN a t r (k + 1) = (if b (32 * t2 + k) = 0 then 0 else 1) + uN b t2 r (k + 1)
    rw [ih (k + 1) (fun j h1 h2 => h j (by omega) (by omega))]
    have q := h k (by omega) (by omega)
    by_cases e : a (32 * t + k) = 0
    · rw [if_pos e, if_pos (q.mp e)]
    · rw [if_neg e, if_neg (fun z => e (q.mpr z))]
theorem u_nS {a b : Nat → Int32} {t : Nat} : ∀ (r k : Nat), (∀ j, k ≤ j → j < k + r → (a (32 * t + j) = 0 ↔ b (32 * t + (j + 1)) = 0)) → uN a t r k = uN b t r (k + 1) := by
  intro r
  induction r with
  | zero => intro k _; rfl
  | succ r ih =>
    intro k h
    show (if a (32 * t + k) = 0 then 0 else 1) + uN a t r (k + 1) = (if b (32 * t + (k + 1)) = 0 then 0 else 1) + uN b t r (k + 1 + 1)
    rw [ih (k + 1) (fun j h1 h2 => h j (by omega) (by omega))]
    have q := h k (by omega) (by omega)
    by_cases e : a (32 * t + k) = 0
    · rw [if_pos e, if_pos (q.mp e)]
    · rw [if_neg e, if_neg (fun z => e (q.mpr z))]
theorem u_nL (hl : Nat → Int32) (t : Nat) : ∀ (r k : Nat), uN hl t (r + 1) k = uN hl t r k + (if hl (32 * t + (k + r)) = 0 then 0 else 1) := by
  intro r
  induction r with
  | zero => intro k; show (if hl (32 * t + k) = 0 then 0 else 1) + 0 = 0 + _; rw [Nat.add_zero, Nat.add_zero, Nat.zero_add]
  | succ r ih =>
    intro k
    show (if hl (32 * t + k) = 0 then 0 else 1) + uN hl t (r + 1) (k + 1) = ((if hl (32 * t + k) = 0 then 0 else 1) + uN hl t r (k + 1)) + _
    rw [ih (k + 1), show k + 1 + r = k + (r + 1) by omega]
    omega
theorem u_nShift (hl : Nat → Int32) (t : Nat) (h : ¬ hl (32 * t) = 0) : uN hl t 32 0 = uN (mShH t 32 0 hl) t 32 0 + 1 := by
  have e1 : uN hl t 32 0 = 1 + uN hl t 31 1 := by
    show (if hl (32 * t + 0) = 0 then 0 else 1) + uN hl t 31 (0 + 1) = _
    rw [Nat.add_zero, if_neg h]
  have e2 : uN (mShH t 32 0 hl) t 32 0 = uN (mShH t 32 0 hl) t 31 0 := by
    rw [u_nL (mShH t 32 0 hl) t 31 0, Nat.zero_add, u_shHe, if_pos rfl, Nat.add_zero]
  have e3 : uN (mShH t 32 0 hl) t 31 0 = uN hl t 31 1 := by
    refine u_nS 31 0 (fun j h1 h2 => ?_)
    rw [u_shH0 t hl (by omega)]
    by_cases e : hl (32 * t + (j + 1)) = 0
    · rw [if_pos e]; exact ⟨fun _ => e, fun _ => rfl⟩
    · rw [if_neg e]; exact ⟨fun z => absurd z (by decide), fun z => absurd z e⟩
  omega
theorem u_nUpd (hl : Nat → Int32) (t i : Nat) : ∀ (r k : Nat), k ≤ i → i < k + r → hl (32 * t + i) = 0 → uN (upd hl (32 * t + i) 1) t r k = uN hl t r k + 1 := by
  intro r
  induction r with
  | zero => intro k h1 h2; omega
  | succ r ih =>
    intro k h1 h2 h3
    show (if upd hl (32 * t + i) 1 (32 * t + k) = 0 then 0 else 1) + uN (upd hl (32 * t + i) 1) t r (k + 1) = (if hl (32 * t + k) = 0 then 0 else 1) + uN hl t r (k + 1) + 1
    by_cases e : k = i
    · subst e
      rw [pk_us, if_neg (by decide), if_pos h3, u_nE (a := upd hl (32 * t + k) 1) (b := hl) (t2 := t) r (k + 1) (fun j a b => by rw [pk_un (by omega)])]
      omega
    · rw [pk_un (by omega), ih (k + 1) (by omega) (by omega) h3]
      omega
/-- the window of stream t -/
def uWin (t : Nat) (hd : Nat → Int32) (nx : Int32) (hl hb : Nat → Int32) : Prop := ∀ k, k < 32 → (hl (32 * t + k) = 0 → hd (sPl (nx + nI k)) = -1) ∧ (¬ hl (32 * t + k) = 0 → hd (sPl (nx + nI k)) = hb (32 * t + k) ∧ ∃ x, x < 256 ∧ hb (32 * t + k) = nI x)
theorem u_bneg {x : Nat} (hx : x < 256) : ¬ nI x = -1 := by
  intro z
  have e := congrArg Int32.toInt z
  rw [nI_toInt (by omega)] at e
  have : (-1 : Int32).toInt = -1 := by decide
  omega
theorem u_winHeld {t : Nat} {hd : Nat → Int32} {nx : Int32} {hl hb : Nat → Int32} (h : uWin t hd nx hl hb) {k : Nat} (hk : k < 32) : hd (sPl (nx + nI k)) = -1 ↔ hl (32 * t + k) = 0 := by
  constructor
  · intro q
    apply Classical.byContradiction
    intro z
    obtain ⟨e, x, hx, ex⟩ := (h k hk).2 z
    rw [e, ex] at q
    exact u_bneg hx q
  · exact (h k hk).1
theorem u_winShift {t : Nat} {hd : Nat → Int32} {nx : Int32} {hl hb : Nat → Int32} (h : uWin t hd nx hl hb) : uWin t (upd hd (sPl nx) (-1)) (nx + 1) (mShH t 32 0 hl) (mShB t 32 0 hb) := by
  intro k hk
  have eP : sPl (nx + 1 + nI k) = sPl (nx + nI (k + 1)) := by rw [Int32.add_assoc, show (1 : Int32) + nI k = nI (k + 1) from by rw [Int32.add_comm, nI_1]]
  rw [eP]
  by_cases e : k = 31
  · subst e
    rw [u_shHe]
    have : sPl (nx + nI (31 + 1)) = sPl nx := by rw [u_spl]; have := u_splL nx; omega
    rw [this, pk_us]
    exact ⟨fun _ => rfl, fun z => absurd rfl z⟩
  · rw [u_shH0 t hl (by omega), u_shB0 t hb (by omega)]
    have : sPl (nx + nI (k + 1)) ≠ sPl nx := by rw [u_spl]; have := u_splL nx; omega
    rw [pk_un this]
    have q := h (k + 1) (by omega)
    by_cases z : hl (32 * t + (k + 1)) = 0
    · rw [if_pos z]; exact ⟨fun _ => q.1 z, fun y => absurd rfl y⟩
    · rw [if_neg z]; exact ⟨fun y => absurd y (by decide), fun _ => q.2 z⟩
/-- a window with nothing held lies anywhere -/
theorem u_winMove {t : Nat} {hd : Nat → Int32} {nx : Int32} {hl hb : Nat → Int32} (h : uWin t hd nx hl hb) (hz : ∀ k, k < 32 → hl (32 * t + k) = 0) (nx2 : Int32) : uWin t hd nx2 hl hb := by
  intro k hk
  refine ⟨fun _ => ?_, fun z => absurd (hz k hk) z⟩
  have hb1 := u_splL nx
  have hb2 := u_splL (nx2 + nI k)
  have q := (h ((sPl (nx2 + nI k) + 32 - sPl nx) % 32) (by omega)).1 (hz _ (by omega))
  rw [u_spl nx] at q
  rw [show (sPl nx + (sPl (nx2 + nI k) + 32 - sPl nx) % 32) % 32 = sPl (nx2 + nI k) by omega] at q
  exact q
/-- a byte comes into the window -/
theorem u_winHold {t : Nat} (ht : t < 8) {hd : Nat → Int32} {nx : Int32} {hl hb : Nat → Int32} (h : uWin t hd nx hl hb) (num v : Int32) (ls : Bool) {x : Nat} (hx : x < 256) (hv : v = nI x) : uWin t (sHd hd nx num v ls) nx (mHl hl t (num - nx)) (mHb hl hb ls t (num - nx) v) ∧ sHs hd nx num (nI (uN hl t 32 0)) = nI (uN (mHl hl t (num - nx)) t 32 0) := by
  unfold sHd mHl mHb sHs
  by_cases h1 : num - nx < 0
  · rw [if_pos h1, if_pos h1, if_pos h1, if_pos h1]; exact ⟨h, rfl⟩
  · rw [if_neg h1, if_neg h1, if_neg h1, if_neg h1]
    obtain ⟨i, hi, ei⟩ := nI_of h1
    have c1 : num - nx < 32 ↔ i < 32 := by rw [ei]; exact nI_ltI hi (b := 32) (by omega)
    have c2 : num - nx ≤ 31 ↔ i < 32 := by rw [ei]; exact (nI_leI hi (b := 31) (by omega)).trans (by omega)
    by_cases h2 : i < 32
    · rw [if_pos (c1.mpr h2), if_pos (c2.mpr h2), if_pos (c2.mpr h2), if_pos (c1.mpr h2)]
      have en : num = nx + nI i := by
        rw [← ei, Int32.add_comm, Int32.sub_add_cancel]
      have ex : mHx t (num - nx) = 32 * t + i := by
        show (32 * nI t + (num - nx)).toNatClampNeg = _
        rw [ei, show (32 : Int32) = nI 32 from rfl, pk_mul, nI_add, nI_clamp (by omega)]
      rw [ex]
      have eh := u_winHeld h h2
      rw [← en] at eh
      have inj : ∀ k, k < 32 → k ≠ i → sPl (nx + nI k) ≠ sPl num := by
        intro k hk hne
        rw [en, u_spl, u_spl]; have := u_splL nx; omega
      have held : uWin t (upd hd (sPl num) v) nx (upd hl (32 * t + i) 1) (upd hb (32 * t + i) v) := by
        intro k hk
        by_cases e : k = i
        · subst e
          rw [pk_us, pk_us, ← en, pk_us]
          exact ⟨fun z => absurd z (by decide), fun _ => ⟨rfl, x, hx, hv⟩⟩
        · rw [pk_un (f := hl) (by omega), pk_un (f := hb) (by omega), pk_un (inj k hk e)]
          exact h k hk
      have kept : ¬ hl (32 * t + i) = 0 → uWin t hd nx (upd hl (32 * t + i) 1) hb := by
        intro hz k hk
        by_cases e : k = i
        · subst e
          rw [pk_us]
          exact ⟨fun z => absurd z (by decide), fun _ => (h k hk).2 hz⟩
        · rw [pk_un (by omega)]
          exact h k hk
      by_cases h3 : hl (32 * t + i) = 0
      · rw [if_pos (eh.mpr h3), if_pos (Or.inl h3), if_pos (eh.mpr h3)]
        exact ⟨held, by rw [nI_1, u_nUpd hl t i 32 0 (by omega) (by omega) h3]⟩
      · rw [if_neg (fun z => h3 (eh.mp z)), if_neg (fun z => h3 (eh.mp z))]
        have ec : uN (upd hl (32 * t + i) 1) t 32 0 = uN hl t 32 0 := by
          refine u_nE 32 0 (fun j _ _ => ?_)
          by_cases e : j = i
          · subst e; rw [pk_us]; exact ⟨fun z => absurd z (by decide), fun z => absurd z h3⟩
          · rw [pk_un (by omega)]
        cases ls
        · rw [if_neg (by decide), if_neg (fun z => z.elim h3 (by decide))]
          exact ⟨kept h3, by rw [ec]⟩
        · rw [if_pos rfl, if_pos (Or.inr rfl)]
          exact ⟨held, by rw [ec]⟩
    · rw [if_neg (fun z => h2 (c1.mp z)), if_neg (fun z => h2 (c2.mp z)), if_neg (fun z => h2 (c2.mp z)), if_neg (fun z => h2 (c1.mp z))]
      exact ⟨h, rfl⟩

/-! Alerts: a ring against shifted rows; the bits of raised rules -/
theorem u_sh : ∀ (r : Nat) (g : Nat → Int32) (j : Nat), mSh r g j = if 4 ≤ j ∧ j < r + 4 then g (j - 4) else g j := by
  intro r
  induction r with
  | zero => intro g j; rw [if_neg (show ¬ (4 ≤ j ∧ j < 0 + 4) by omega)]; rfl
  | succ r ih =>
    intro g j
    show mSh r _ j = _
    rw [ih]
    by_cases h : 4 ≤ j ∧ j < r + 4
    · rw [if_pos h, if_pos (show 4 ≤ j ∧ j < r + 1 + 4 by omega), pk_un (by omega)]
    · rw [if_neg h]
      by_cases e : j = r + 4
      · subst e; rw [pk_us, if_pos (show 4 ≤ r + 4 ∧ r + 4 < r + 1 + 4 by omega), Nat.add_sub_cancel]
      · rw [pk_un e, if_neg (show ¬ (4 ≤ j ∧ j < r + 1 + 4) by omega)]
def uRing (rows : Nat → Int32) (a : Nat) (at9 : Nat → Int32) (N : Nat) : Prop := (N = 0 ∨ 1 ≤ a) ∧ a ≤ 24 ∧ ∀ k, k < 24 → k < N → ∀ w, w < 4 → at9 (4 * k + w) = rows (4 * ((a + 23 - k) % 24) + w)
theorem u_ring {rows : Nat → Int32} {a : Nat} {at9 : Nat → Int32} {N : Nat} (h : uRing rows a at9 N) (x1 x2 x3 x4 : Int32) : uRing (aAdd rows (aNx a) x1 x2 x3 x4) (aNx a + 1) (mAt at9 x1 x2 x3 x4) (N + 1) := by
  obtain ⟨h1, h2, h3⟩ := h
  have hb : aNx a = a % 24 := by unfold aNx; split <;> omega
  refine ⟨Or.inr (by omega), by omega, ?_⟩
  intro k hk hkN w hw
  unfold aAdd mAt
  by_cases e : k = 0
  · subst e
    have eb : (aNx a + 1 + 23 - 0) % 24 = aNx a := by omega
    rw [eb, Nat.mul_zero, Nat.zero_add]
    have : w = 0 ∨ w = 1 ∨ w = 2 ∨ w = 3 := by omega
    rcases this with e | e | e | e <;> subst e
    · rw [pk_un (by omega), pk_un (by omega), pk_un (by omega), pk_us, pk_un (by omega), pk_un (by omega), pk_un (by omega), Nat.add_zero, pk_us]
    · rw [pk_un (by omega), pk_un (by omega), pk_us, pk_un (by omega), pk_un (by omega), pk_us]
    · rw [pk_un (by omega), pk_us, pk_un (by omega), pk_us]
    · rw [pk_us, pk_us]
  · rw [pk_un (by omega), pk_un (by omega), pk_un (by omega), pk_un (by omega), u_sh, if_pos (show 4 ≤ 4 * k + w ∧ 4 * k + w < 92 + 4 by omega)]
    have ne : (aNx a + 1 + 23 - k) % 24 ≠ aNx a := by omega
    rw [pk_un (by omega), pk_un (by omega), pk_un (by omega), pk_un (by omega)]
    have q := h3 (k - 1) (by omega) (by omega) w hw
    rw [show 4 * (k - 1) + w = 4 * k + w - 4 by omega] at q
    rw [q, show (a + 23 - (k - 1)) % 24 = (aNx a + 1 + 23 - k) % 24 by omega]
/-- what both tell of an alert -/
theorem u_read {rows : Nat → Int32} {a : Nat} {at9 : Nat → Int32} {N : Nat} (h : uRing rows a at9 N) (k w : Int32) : aRd rows (nI N) (nI a - 1) k w = mAl at9 (nI N) k w := by
  unfold aRd mAl
  by_cases h1 : k < 0
  · rw [if_pos h1, if_pos h1]
  · rw [if_neg h1, if_neg h1]
    obtain ⟨i, hi, e⟩ := nI_of h1
    subst e
    have c24 : (24 : Int32) ≤ nI i ↔ 24 ≤ i := nI_leI (a := 24) (by omega) hi
    by_cases h2 : 24 ≤ i
    · rw [if_pos (c24.mpr h2)]
      have : (if (24 : Int32) < nI N then 24 else nI N) ≤ nI i := by
        split
        · exact c24.mpr h2
        · rename_i z
          rw [Int32.lt_iff_toInt_lt] at z
          have := c24.mpr h2
          rw [Int32.le_iff_toInt_le] at this ⊢
          omega
      rw [if_pos this]
    · rw [if_neg (fun z => h2 (c24.mp z))]
      have c3 : (if (24 : Int32) < nI N then 24 else nI N) ≤ nI i ↔ nI N ≤ nI i := by
        split
        · rename_i z
          constructor
          · intro y; exact absurd (c24.mp y) h2
          · intro y
            rw [Int32.lt_iff_toInt_lt] at z
            rw [Int32.le_iff_toInt_le] at y ⊢
            omega
        · exact Iff.rfl
      by_cases h3 : nI N ≤ nI i
      · rw [if_pos (c3.mpr h3), if_pos h3]
      · rw [if_neg (fun z => h3 (c3.mp z)), if_neg h3]
        have hN : i < N := Nat.lt_of_not_le (fun z => h3 (nI_le z hi))
        obtain ⟨g1, g2, g3⟩ := h
        have ha : 1 ≤ a := g1.resolve_left (by omega)
        by_cases h4 : w < 0
        · rw [if_pos h4, if_pos h4]
        · rw [if_neg h4, if_neg h4]
          obtain ⟨v, hv, e⟩ := nI_of h4
          subst e
          have c5 : nI v < 4 ↔ v < 4 := nI_ltI hv (b := 4) (by omega)
          have c6 : nI v ≤ 3 ↔ v ≤ 3 := nI_leI hv (b := 3) (by omega)
          by_cases h5 : v < 4
          · rw [if_pos (c5.mpr h5), if_pos (c6.mpr (by omega))]
            have ea : nI a - 1 = nI (a - 1) := pk_sub (b := 1) ha
            rw [ea]
            have c7 : nI (a - 1) < nI i ↔ a - 1 < i := nI_ltI (by omega) hi
            have eR : (4 * nI i + nI v).toNatClampNeg = 4 * i + v := by rw [show (4 : Int32) = nI 4 from rfl, pk_mul, nI_add, nI_clamp (by omega)]
            rw [eR, g3 i (by omega) hN v h5]
            by_cases h6 : a - 1 < i
            · rw [if_pos (c7.mpr h6)]
              have : nI (a - 1) - nI i + 24 = nI (a + 23 - i) := by
                rw [show (24 : Int32) = nI 24 from rfl, Int32.sub_eq_add_neg, Int32.add_assoc, Int32.add_comm (-(nI i)), ← Int32.sub_eq_add_neg, pk_sub (a := 24) (by omega), nI_add]; congr 1; omega
              rw [this, show (4 : Int32) = nI 4 from rfl, pk_mul, nI_add, nI_clamp (by omega)]
              congr 1
              omega
            · rw [if_neg (fun z => h6 (c7.mp z)), pk_sub (by omega), show (4 : Int32) = nI 4 from rfl, pk_mul, nI_add, nI_clamp (by omega)]
              congr 1
              omega
          · rw [if_neg (fun z => h5 (c5.mp z)), if_neg (fun z => h5 (by have := c6.mp z; omega))]
theorem u_bit {r : Nat} (hr : r < 6) : (1 : Int32) <<< (nI r &&& 31) = nI (2 ^ r) := by
  have : r = 0 ∨ r = 1 ∨ r = 2 ∨ r = 3 ∨ r = 4 ∨ r = 5 := by omega
  rcases this with h | h | h | h | h | h <;> subst h <;> decide
theorem u_pow {r : Nat} (hr : r < 6) : 2 ^ r < 64 := by
  have : r = 0 ∨ r = 1 ∨ r = 2 ∨ r = 3 ∨ r = 4 ∨ r = 5 := by omega
  rcases this with h | h | h | h | h | h <;> subst h <;> decide
theorem u_raP {r : Nat} (hr : r < 6) (x : Int32) : raP r x ↔ ¬ x.toBitVec.toNat.testBit r = true := by
  show x &&& (1 <<< (nI r &&& 31)) = 0 ↔ _
  have hp := u_pow hr
  have e : (x &&& nI (2 ^ r)).toBitVec.toNat = if x.toBitVec.toNat.testBit r = true then 2 ^ r else 0 := by
    rw [Int32.toBitVec_and, BitVec.toNat_and, pk_tn (by omega)]; exact u_andP _ r
  rw [u_bit hr]
  constructor
  · intro h z
    rw [h, if_pos z] at e
    have : (0 : Int32).toBitVec.toNat = 0 := by decide
    have := Nat.two_pow_pos r
    omega
  · intro h
    rw [if_neg h] at e
    exact Int32.toBitVec_inj.mp (BitVec.eq_of_toNat_eq e)
theorem u_raS {r i : Nat} (hr : r < 6) (hi : i < 6) (x : Int32) : raP i (x ||| (1 <<< (nI r &&& 31))) ↔ (i ≠ r ∧ raP i x) := by
  rw [u_raP hi, u_raP hi, u_bit hr, Int32.toBitVec_or, BitVec.toNat_or, pk_tn (by have := u_pow hr; omega), Nat.testBit_or, Nat.testBit_two_pow, Bool.or_eq_true, decide_eq_true_eq]
  constructor
  · intro h; exact ⟨fun z => h (Or.inr z.symm), fun z => h (Or.inl z)⟩
  · rintro ⟨h1, h2⟩ (z | z)
    · exact h2 z
    · exact h1 z.symm
/-- the rules raised on stream t, and the alerts -/
def uRA (t : Nat) (tot0 : Int32) (s : raT) (S : mS) (N : Nat) : Prop := (∀ r, r < 6 → (raP r s.1 ↔ S.ra (6 * t + r) = 0)) ∧ uRing s.2.1 s.2.2.2 S.at' N ∧ s.2.2.1 = nI N ∧ S.al = nI N ∧ s.2.2.1 = tot0 + S.c
theorem u_look {R : mR} {t ts ru : Nat} (hru : ru ≤ 6) {g : Nat → Bool} {cpt wa tot0 : Int32} (hcp : cpt = R.cp (t / 2)) (hwa : wa = nI (t % 2)) (hg : ∀ r, r < ru → ∀ pl, g r = (decide (mAp R t r) && (R.ho t ts r pl).1)) : ∀ (k r : Nat) (s : raT) (S : mS) (N : Nat), r + k = ru → uRA t tot0 s S N → ∃ N2, uRA t tot0 (raF g cpt wa ts k r s) (mLk R t ts k r S) N2 ∧ ∀ j, (j < 6 * t ∨ 6 * t + 6 ≤ j) → (mLk R t ts k r S).ra j = S.ra j := by
  intro k
  induction k with
  | zero => intro r s S N _ h; exact ⟨N, h, fun j _ => rfl⟩
  | succ k ih =>
    intro r s S N hr h
    unfold raF mLk
    have hgr := hg r (by omega) S.pl
    obtain ⟨h1, h2, h3, h4, h5⟩ := h
    by_cases ha : mAp R t r
    · rw [decide_eq_true ha, Bool.true_and] at hgr
      rw [if_pos ha]
      unfold mLs
      by_cases hra : S.ra (6 * t + r) = 0
      · rw [if_pos hra]
        have hrp := (h1 r (by omega)).mpr hra
        by_cases hho : (R.ho t ts r S.pl).1 = true
        · rw [if_pos hho, if_pos ⟨by rw [hgr]; exact hho, hrp⟩]
          have key : uRA t tot0 (s.1 ||| (1 <<< (nI r &&& 31)), aAdd s.2.1 (aNx s.2.2.2) (nI r) cpt wa (nI ts), s.2.2.1 + 1, aNx s.2.2.2 + 1) ⟨S.c + 1, nI (R.T r), S.al + 1, upd S.ra (6 * t + r) 1, mLvA R.mk' r (R.oN r) 0 0 S.lv, (R.ho t ts r S.pl).2, mAt S.at' (nI r) (R.cp (t / 2)) (nI (t % 2)) (nI ts)⟩ (N + 1) := by
            refine ⟨?_, ?_, ?_, ?_, ?_⟩
            · intro i hi
              show raP i (s.1 ||| (1 <<< (nI r &&& 31))) ↔ upd S.ra (6 * t + r) 1 (6 * t + i) = 0
              rw [u_raS (by omega) hi]
              by_cases e : i = r
              · subst e; rw [pk_us]; exact ⟨fun z => absurd rfl z.1, fun z => absurd z (by decide)⟩
              · rw [pk_un (by omega), h1 i hi]; exact ⟨fun z => z.2, fun z => ⟨e, z⟩⟩
            · show uRing (aAdd s.2.1 (aNx s.2.2.2) (nI r) cpt wa (nI ts)) (aNx s.2.2.2 + 1) (mAt S.at' (nI r) (R.cp (t / 2)) (nI (t % 2)) (nI ts)) (N + 1)
              rw [hcp, hwa]; exact u_ring h2 _ _ _ _
            · show s.2.2.1 + 1 = nI (N + 1)
              rw [h3, nI_1]
            · show S.al + 1 = nI (N + 1)
              rw [h4, nI_1]
            · show s.2.2.1 + 1 = tot0 + (S.c + 1)
              rw [h5, Int32.add_assoc]
          obtain ⟨N2, a1, a2⟩ := ih (r + 1) _ _ _ (by omega) key
          exact ⟨N2, a1, fun j hj => by rw [a2 j hj]; exact pk_un (by omega)⟩
        · rw [if_neg hho, if_neg (fun z => hho (by rw [← hgr]; exact z.1))]
          obtain ⟨N2, a1, a2⟩ := ih (r + 1) s ⟨S.c, nI (R.T r), S.al, S.ra, mLvA R.mk' r (R.oN r) 0 0 S.lv, (R.ho t ts r S.pl).2, S.at'⟩ N (by omega) ⟨h1, h2, h3, h4, h5⟩
          exact ⟨N2, a1, a2⟩
      · rw [if_neg hra, if_neg (fun z => hra ((h1 r (by omega)).mp z.2))]
        exact ih (r + 1) s S N (by omega) ⟨h1, h2, h3, h4, h5⟩
    · rw [decide_eq_false ha, Bool.false_and] at hgr
      rw [if_neg ha, if_neg (fun z => by rw [hgr] at z; exact absurd z.1 (by decide))]
      exact ih (r + 1) s S N (by omega) ⟨h1, h2, h3, h4, h5⟩

/-! A stream grows -/
def uGrw (t : Nat) (tot0 : Int32) (s : rcT) (q : gT) (N : Nat) : Prop := s.2.2.1 ≤ 80 ∧ q.s = s.2.2.1 ∧ q.sz t = nI s.2.2.1 ∧ (∀ j, j < s.2.2.1 → q.tx (80 * t + j) = s.1 j) ∧ q.nx t = s.2.2.2.2.1 ∧ uWin t s.2.1 s.2.2.2.2.1 q.hl q.hb ∧ s.2.2.2.1 = nI (uN q.hl t 32 0) ∧ uRA t tot0 s.2.2.2.2.2 q.S N
/-- what does not belong to stream t stays -/
def uFr (t : Nat) (q p : gT) : Prop := (∀ j, j ≠ t → p.sz j = q.sz j ∧ p.nx j = q.nx j) ∧ (∀ j, (j < 80 * t ∨ 80 * t + 80 ≤ j) → p.tx j = q.tx j) ∧ (∀ j, (j < 32 * t ∨ 32 * t + 32 ≤ j) → p.hl j = q.hl j ∧ p.hb j = q.hb j) ∧ ∀ j, (j < 6 * t ∨ 6 * t + 6 ≤ j) → p.S.ra j = q.S.ra j
theorem u_frR (t : Nat) (q : gT) : uFr t q q := ⟨fun _ _ => ⟨rfl, rfl⟩, fun _ _ => rfl, fun _ _ => ⟨rfl, rfl⟩, fun _ _ => rfl⟩
theorem u_frT {t : Nat} {q p r : gT} (h1 : uFr t q p) (h2 : uFr t p r) : uFr t q r :=
  ⟨fun j hj => ⟨(h2.1 j hj).1.trans (h1.1 j hj).1, (h2.1 j hj).2.trans (h1.1 j hj).2⟩, fun j hj => (h2.2.1 j hj).trans (h1.2.1 j hj), fun j hj => ⟨(h2.2.2.1 j hj).1.trans (h1.2.2.1 j hj).1, (h2.2.2.1 j hj).2.trans (h1.2.2.1 j hj).2⟩, fun j hj => (h2.2.2.2 j hj).trans (h1.2.2.2 j hj)⟩
section GRW
variable {R : mR} {t ru : Nat} {G : (Nat → Int32) → Nat → Nat → Bool} {cpt wa tot0 : Int32}
def uG (R : mR) (t ru : Nat) (G : (Nat → Int32) → Nat → Nat → Bool) : Prop := ∀ (tx1 tx sz : Nat → Int32) (ts : Nat), ts ≤ 80 → (∀ j, j < ts → tx (80 * t + j) = tx1 j) → ∀ r, r < ru → ∀ pl, G tx1 ts r = (decide (mAp (mRw R sz tx) t r) && ((mRw R sz tx).ho t ts r pl).1)
theorem u_grow1 (hru : ru ≤ 6) (hcp : cpt = R.cp (t / 2)) (hwa : wa = nI (t % 2)) (hG : uG R t ru G) {s : rcT} {q : gT} {N : Nat} (h : uGrw t tot0 s q N) (hh : ¬ q.hl (32 * t) = 0) : ∃ N2, uGrw t tot0 (rcS G cpt wa ru s) (mG1 R t ru q) N2 ∧ uFr t q (mG1 R t ru q) := by
  obtain ⟨h1, h2, h3, h4, h5, h6, h7, h8⟩ := h
  have h0 := (h6 0 (by omega)).2 (by rw [Nat.add_zero]; exact hh)
  rw [u_spl0, Nat.add_zero] at h0
  have hw : uWin t (upd s.2.1 (sPl s.2.2.2.2.1) (-1)) (s.2.2.2.2.1 + 1) (mShH t 32 0 q.hl) (mShB t 32 0 q.hb) := u_winShift h6
  have hc : s.2.2.2.1 - 1 = nI (uN (mShH t 32 0 q.hl) t 32 0) := by rw [h7, u_nShift q.hl t hh, nI_pred]
  have hn : upd q.nx t (q.nx t + 1) t = s.2.2.2.2.1 + 1 := by rw [pk_us, h5]
  have c80 : 80 ≤ nI s.2.2.1 ↔ 80 ≤ s.2.2.1 := nI_leI (a := 80) (by omega) (by omega)
  unfold rcS mG1
  by_cases hs : q.s < 80
  · have hs2 : s.2.2.1 < 80 := by omega
    rw [if_pos hs, if_neg (fun z => by have := c80.mp z; omega)]
    have htx : ∀ j, j < s.2.2.1 + 1 → upd q.tx (80 * t + q.s) (q.hb (32 * t)) (80 * t + j) = upd s.1 s.2.2.1 (s.2.1 (sPl s.2.2.2.2.1)) j := by
      intro j hj
      by_cases e : j = s.2.2.1
      · subst e; rw [h2, pk_us, pk_us, h0.1]
      · rw [pk_un (by omega), pk_un e, h4 j (by omega)]
    have hg := hG (upd s.1 s.2.2.1 (s.2.1 (sPl s.2.2.2.2.1))) (upd q.tx (80 * t + q.s) (q.hb (32 * t))) (upd q.sz t (nI (q.s + 1))) (s.2.2.1 + 1) (by omega) htx
    have lk := u_look (R := mRw R (upd q.sz t (nI (q.s + 1))) (upd q.tx (80 * t + q.s) (q.hb (32 * t)))) (t := t) (ts := s.2.2.1 + 1) (tot0 := tot0 + q.S.c) (cpt := cpt) (wa := wa) hru hcp hwa hg ru 0 s.2.2.2.2.2 ⟨0, q.S.2⟩ N (by omega) ⟨h8.1, h8.2.1, h8.2.2.1, h8.2.2.2.1, by rw [h8.2.2.2.2]; exact (Int32.add_zero _).symm⟩
    obtain ⟨N2, a1, a2⟩ := lk
    rw [← h2] at a1 a2
    refine ⟨N2, ⟨by show s.2.2.1 + 1 ≤ 80; omega, by show q.s + 1 = s.2.2.1 + 1; omega, by show upd q.sz t (nI (q.s + 1)) t = _; rw [pk_us, h2], htx, hn, hw, hc, ?_⟩, ?_⟩
    · rw [← h2]
      exact ⟨a1.1, a1.2.1, a1.2.2.1, a1.2.2.2.1, by
        have := a1.2.2.2.2
        rw [this]
        show tot0 + q.S.c + _ = tot0 + (q.S.c + _)
        rw [Int32.add_assoc]⟩
    · refine ⟨fun j hj => ⟨pk_un hj, pk_un hj⟩, fun j hj => ?_, fun j hj => ⟨u_shHo t _ hj, u_shBo t _ hj⟩, fun j hj => a2 j hj⟩
      exact pk_un (by omega)
  · have hs2 : 80 ≤ s.2.2.1 := by omega
    rw [if_neg hs, if_pos (c80.mpr hs2)]
    exact ⟨N, ⟨h1, h2, h3, h4, hn, hw, hc, h8⟩, ⟨fun j hj => ⟨rfl, pk_un hj⟩, fun j hj => rfl, fun j hj => ⟨u_shHo t _ hj, u_shBo t _ hj⟩, fun j hj => rfl⟩⟩
theorem u_grow (hru : ru ≤ 6) (hcp : cpt = R.cp (t / 2)) (hwa : wa = nI (t % 2)) (hG : uG R t ru G) : ∀ (k : Nat) (s : rcT) (q : gT) (N : Nat), uGrw t tot0 s q N → ∃ N2, uGrw t tot0 (rcL G cpt wa ru k s) (mGr R t ru k q) N2 ∧ uFr t q (mGr R t ru k q) := by
  intro k
  induction k with
  | zero => intro s q N h; exact ⟨N, h, u_frR t q⟩
  | succ k ih =>
    intro s q N h
    have eh : s.2.1 (sPl s.2.2.2.2.1) = -1 ↔ q.hl (32 * t) = 0 := by
      have := u_winHeld h.2.2.2.2.2.1 (k := 0) (by omega)
      rw [u_spl0, Nat.add_zero] at this
      exact this
    unfold rcL mGr
    by_cases hh : q.hl (32 * t) = 0
    · rw [if_pos hh, if_neg (fun z => z (eh.mpr hh))]
      exact ⟨N, h, u_frR t q⟩
    · rw [if_neg hh, if_pos (fun z => hh (eh.mp z))]
      obtain ⟨N1, a1, a2⟩ := u_grow1 hru hcp hwa hG h hh
      obtain ⟨N2, b1, b2⟩ := ih _ _ N1 a1
      exact ⟨N2, b1, u_frT a2 b2⟩
end GRW
