/-! Pure (by program: wip/whole/pure/lay.py) -/
/-! Sums -/
def uFold (T : Nat) : Nat := if T = 0 then 0 else (T - 1) % 65535 + 1
theorem u_foldL (T : Nat) : uFold T ≤ 65535 := by unfold uFold; split <;> omega
theorem u_foldA (A x : Nat) (hx : x ≤ 65535) : (uFold A + x) % 65536 + (uFold A + x) / 65536 = uFold (A + x) := by
  unfold uFold
  by_cases h : A = 0
  · rw [if_pos h]
    by_cases h2 : x = 0
    · rw [if_pos (by omega)]; omega
    · rw [if_neg (by omega)]; omega
  · rw [if_neg h, if_neg (by omega)]; omega
theorem u_mod16 (x : Nat) : (nI x &&& 65535) = nI (x % 2 ^ 32 % 65536) := by
  rw [pk_and (nI x) (m := 65535) 16 (by decide)]
  congr 1
theorem u_wAdd {s x : Nat} (hs : s ≤ 65535) (hx : x ≤ 65535) : wAdd (nI s) (nI x) = nI ((s + x) % 65536 + (s + x) / 65536) := by
  unfold wAdd
  rw [nI_add, pk_andN (by omega) (m := 65535) 16 (by decide), pk_ushrN (by omega) 16 16 (by decide), nI_add]
theorem u_mFo {T : Nat} (hT : T < 2 ^ 31) : mFo (nI T) = nI (if T ≤ 65535 then T else T % 65536 + T / 65536) := by
  unfold mFo
  have c : nI T ≤ 65535 ↔ T ≤ 65535 := nI_leI hT (b := 65535) (by omega)
  by_cases h : T ≤ 65535
  · rw [if_pos (c.mpr h), if_pos h]
  · rw [if_neg (fun z => h (c.mp z)), if_neg h, pk_andN (by omega) (m := 65535) 16 (by decide), pk_shrN hT _ 16 (by decide), nI_add]
theorem u_fold4 {T : Nat} (hT : T < 2 ^ 24) : mFo4 4 (nI T) = nI (uFold T) := by
  have st : ∀ x, x < 2 ^ 24 → ∃ y, y < 2 ^ 24 ∧ mFo (nI x) = nI y ∧ uFold y = uFold x ∧ (x ≤ 65535 → y = x) ∧ (65535 < x → y ≤ 65535 + x / 65536) := by
    intro x hx
    refine ⟨if x ≤ 65535 then x else x % 65536 + x / 65536, by split <;> omega, u_mFo (by omega), ?_, fun h => if_pos h, fun h => by rw [if_neg (by omega)]; omega⟩
    split
    · rfl
    · unfold uFold
      rw [if_neg (by omega), if_neg (by omega)]; omega
  obtain ⟨a, a1, a2, a3, a4, a5⟩ := st T hT
  obtain ⟨b, b1, b2, b3, b4, b5⟩ := st a a1
  obtain ⟨c, c1, c2, c3, c4, c5⟩ := st b b1
  obtain ⟨d, d1, d2, d3, d4, d5⟩ := st c c1
  have ha : a ≤ 65535 + 256 := by by_cases h : T ≤ 65535; have := a4 h; omega; have := a5 (by omega); omega
  have hb : b ≤ 65535 + 1 := by by_cases h : a ≤ 65535; have := b4 h; omega; have := b5 (by omega); omega
  have hc : c ≤ 65535 + 1 := by by_cases h : b ≤ 65535; have := c4 h; omega; have := c5 (by omega); omega
  have hd9 : d ≤ 65535 := by
    by_cases h : b ≤ 65535
    · have := c4 h; have := d4 (by omega); omega
    · have e : b = 65536 := by omega
      have e2 : c = 1 := by
        have q := c2
        rw [e, u_mFo (by omega)] at q
        have := (nI_eq (by decide) (by omega)).mp q
        rw [if_neg (by omega)] at this; omega
      have := d4 (by omega); omega
  show mFo (mFo (mFo (mFo (nI T)))) = _
  rw [a2, b2, c2, d2]
  have : uFold d = uFold T := by rw [d3, c3, b3, a3]
  rw [← this]
  unfold uFold
  split
  · congr 1
  · congr 1; omega
def uT (g : Nat → Nat) (a : Nat) : Nat → Nat → Nat
  | 0, _ => 0
  | r + 1, k => (if (k - a) % 2 = 0 then 256 * g k else g k) + uT g a r (k + 1)
theorem u_tB {g : Nat → Nat} (hg : ∀ j, g j < 256) (a : Nat) : ∀ (r k : Nat), uT g a r k ≤ r * 65280 := by
  intro r
  induction r with
  | zero => intro k; exact Nat.zero_le _
  | succ r ih =>
    intro k
    have := ih (k + 1)
    have := hg k
    show (if (k - a) % 2 = 0 then 256 * g k else g k) + uT g a r (k + 1) ≤ _
    split <;> omega
theorem u_tP (g : Nat → Nat) (a : Nat) : ∀ (r k : Nat), a + 2 ≤ k → uT g (a + 2) r k = uT g a r k := by
  intro r
  induction r with
  | zero => intro k h; rfl
  | succ r ih =>
    intro k h
    show (if (k - (a + 2)) % 2 = 0 then _ else _) + uT g (a + 2) r (k + 1) = (if (k - a) % 2 = 0 then _ else _) + uT g a r (k + 1)
    rw [ih (k + 1) (by omega), show (k - (a + 2)) % 2 = (k - a) % 2 by omega]
theorem u_shl8 {x : Nat} (hx : x < 256) : nI x <<< ((8 : Int32) &&& 31) = nI (256 * x) := by
  rw [pk_shlN _ 8 (by decide) (by omega)]; congr 1; omega
theorem u_mTot {f : Nat → Int32} {g : Nat → Nat} (hf : ∀ j, f j = nI (g j)) (hg : ∀ j, g j < 256) (a : Nat) : ∀ (r k s : Nat), a ≤ k → k + r ≤ 100 → mTot f a r k (nI s) = nI (s + uT g a r k) := by
  intro r
  induction r with
  | zero => intro k s _ _; rfl
  | succ r ih =>
    intro k s hk hr
    unfold mTot
    have e : (nI k - nI a) - (nI k - nI a) / 2 * 2 = nI ((k - a) % 2) := by rw [pk_sub hk]; exact pk_rem (by omega) (by decide) (by decide)
    rw [e, hf k, u_shl8 (hg k)]
    have c : nI ((k - a) % 2) = 0 ↔ (k - a) % 2 = 0 := nI_eq (b := 0) (by omega) (by omega)
    show mTot f a r (k + 1) _ = nI (s + ((if (k - a) % 2 = 0 then 256 * g k else g k) + uT g a r (k + 1)))
    by_cases h : (k - a) % 2 = 0
    · rw [if_pos (c.mpr h), if_pos h, nI_add, ih (k + 1) _ (by omega) (by omega)]; congr 1; omega
    · rw [if_neg (fun z => h (c.mp z)), if_neg h, nI_add, ih (k + 1) _ (by omega) (by omega)]; congr 1; omega
theorem u_or8 {x y : Nat} (hx : x < 65536) (hy : y < 256) : nI (256 * x) ||| nI y = nI (256 * x + y) := by
  apply Int32.toBitVec_inj.mp
  apply BitVec.eq_of_toNat_eq
  rw [Int32.toBitVec_or, BitVec.toNat_or, pk_tn (by omega), pk_tn (by omega), pk_tn (by omega)]
  have := Nat.shiftLeft_add_eq_or_of_lt (i := 8) (b := y) (by omega) x
  rw [Nat.shiftLeft_eq] at this
  rw [Nat.mul_comm 256 x]
  exact this.symm
theorem u_wA {f : Nat → Int32} {n k : Nat} (hn : n ≤ 100) (hk : k < n) : wA n f (nI k) = f k := by
  unfold wA
  rw [if_pos ⟨nI_pos' (by omega), nI_lt hk (by omega)⟩, nI_clamp (by omega)]
theorem u_wSum {f : Nat → Int32} {g : Nat → Nat} (hf : ∀ j, f j = nI (g j)) (hg : ∀ j, g j < 256) {n b : Nat} (hn : n ≤ 100) (hb : b ≤ n) : ∀ (t a A : Nat), b - a ≤ 2 * t → wSum n f t a b (nI (uFold A)) = nI (uFold (A + uT g a (b - a) a)) := by
  intro t
  induction t with
  | zero => intro a A h; rw [show b - a = 0 by omega]; rfl
  | succ t ih =>
    intro a A h
    unfold wSum
    by_cases h1 : a < b
    · rw [if_pos h1, u_wA hn (by omega), hf a, u_shl8 (hg a)]
      have hga := hg a
      by_cases h2 : a + 1 < b
      · rw [if_pos h2, nI_1, u_wA hn (by omega), hf (a + 1), u_or8 (by omega) (hg _)]
        have hg1 := hg (a + 1)
        rw [u_wAdd (u_foldL A) (by omega), u_foldA _ _ (by omega), ih (a + 2) _ (by omega)]
        obtain ⟨d, hd⟩ : ∃ d, b - a = d + 2 := ⟨b - a - 2, by omega⟩
        rw [show b - (a + 2) = d by omega, hd, u_tP _ _ _ _ (by omega)]
        show _ = nI (uFold (A + ((if (a - a) % 2 = 0 then 256 * g a else g a) + ((if (a + 1 - a) % 2 = 0 then 256 * g (a + 1) else g (a + 1)) + uT g a d (a + 1 + 1)))))
        rw [if_pos (by omega), if_neg (by omega)]
        rw [show a + 1 + 1 = a + 2 from rfl]
        congr 2
        omega
      · rw [if_neg h2, show (0 : Int32) = nI 0 from rfl, u_or8 (by omega) (by omega)]
        rw [u_wAdd (u_foldL A) (by omega), u_foldA _ _ (by omega), ih (a + 2) _ (by omega)]
        rw [show b - (a + 2) = 0 by omega, show b - a = 1 by omega]
        show nI (uFold (A + (256 * g a + 0) + 0)) = nI (uFold (A + ((if (a - a) % 2 = 0 then 256 * g a else g a) + 0)))
        rw [if_pos (by omega)]
        congr 2
    · rw [if_neg h1, show b - a = 0 by omega]; rfl
/-- the header's sum -/
theorem u_hs {f : Nat → Int32} {g : Nat → Nat} (hf : ∀ j, f j = nI (g j)) (hg : ∀ j, g j < 256) {n q : Nat} (hn : n ≤ 100) (hq : q ≤ n) : wSum n f q 0 q 0 = mHs f q ∧ ∃ x, x ≤ 65535 ∧ mHs f q = nI x := by
  have e1 : wSum n f q 0 q 0 = nI (uFold (0 + uT g 0 (q - 0) 0)) := u_wSum hf hg hn hq q 0 0 (by omega)
  have e2 : mHs f q = nI (uFold (0 + uT g 0 (q - 0) 0)) := by
    unfold mHs
    have hb := u_tB hg 0 (q - 0) 0
    rw [show (0 : Int32) = nI 0 from rfl, u_mTot hf hg 0 (q - 0) 0 0 (by omega) (by omega), u_fold4 (by omega)]
  exact ⟨by rw [e1, e2], _, u_foldL _, e2⟩
/-- the part's sum -/
theorem u_ps {f : Nat → Int32} {g : Nat → Nat} (hf : ∀ j, f j = nI (g j)) (hg : ∀ j, g j < 256) {n q L : Nat} (hn : n ≤ 100) (hq : q ≤ L) (hL : L ≤ n) (h20 : 20 ≤ n) : wSum n f L q L (wAdd (wAdd (wSum n f 20 12 20 0) 6) (nI L - nI q)) = mPs f q L ∧ ∃ x, x ≤ 65535 ∧ mPs f q L = nI x := by
  have a1 : wSum n f 20 12 20 0 = nI (uFold (0 + uT g 12 (20 - 12) 12)) := u_wSum hf hg hn h20 20 12 0 (by omega)
  have a2 : wAdd (wSum n f 20 12 20 0) 6 = nI (uFold (uT g 12 8 12 + 6)) := by
    rw [a1, Nat.zero_add, show (6 : Int32) = nI 6 from rfl, u_wAdd (u_foldL _) (by omega), u_foldA _ _ (by omega)]
  have a3 : wSum n f L q L (wAdd (wAdd (wSum n f 20 12 20 0) 6) (nI L - nI q)) = nI (uFold (uT g 12 8 12 + 6 + (L - q) + uT g q (L - q) q)) := by
    rw [a2, pk_sub hq, u_wAdd (u_foldL _) (by omega), u_foldA _ _ (by omega), u_wSum hf hg hn hL L q _ (by omega)]
  have b1 := u_tB hg 12 8 12
  have b2 := u_tB hg q (L - q) q
  have e2 : mPs f q L = nI (uFold (uT g 12 8 12 + 6 + (L - q) + uT g q (L - q) q)) := by
    show mFo4 4 (mTot f 12 8 12 0 + 6 + nI L - nI q + mTot f q (L - q) q 0) = _
    rw [show (0 : Int32) = nI 0 from rfl, u_mTot hf hg 12 8 12 0 (by omega) (by omega), u_mTot hf hg q (L - q) q 0 (by omega) (by omega), show (6 : Int32) = nI 6 from rfl, nI_add, nI_add, pk_sub (by omega), nI_add, ← u_fold4 (by omega)]
    congr 2
    omega
  exact ⟨by rw [a3, e2], _, u_foldL _, e2⟩

theorem u_clampB {g : Nat} (hg : g < 256) : (nI g).toBitVec.toNat = g := pk_tn (by omega)
theorem u_pairN {f : Nat → Int32} {g : Nat → Nat} (hf : ∀ j, f j = nI (g j)) (hg : ∀ j, g j < 256) (k : Nat) : mPair f k = nI (256 * g k + g (k + 1)) := by
  show f k <<< ((8 : Int32) &&& 31) ||| f (k + 1) = _
  have := hg k
  rw [hf k, hf (k + 1), u_shl8 (hg k), u_or8 (by omega) (hg _)]
theorem u_wPair {f : Nat → Int32} {n k : Nat} (hn : n ≤ 100) (hk : k + 1 < n) (x : Int32) (hx : x = nI k) : wPair n f x = mPair f k := by
  subst hx
  unfold wPair
  rw [nI_1, u_wA hn (by omega), u_wA hn hk]
theorem u_wQuad {f : Nat → Int32} {n k : Nat} (hn : n ≤ 100) (hk : k + 3 < n) (x : Int32) (hx : x = nI k) : wQuad n f x = mFour f k := by
  subst hx
  unfold wQuad
  rw [u_wPair hn (k := k) (by omega) _ rfl, u_wPair hn (k := k + 2) (by omega) _ (by rw [show (2 : Int32) = nI 2 from rfl, nI_add])]
section FLT
variable {f : Nat → Int32} {g : Nat → Nat} {n : Nat}
theorem u_q (hf : ∀ j, f j = nI (g j)) (hg : ∀ j, g j < 256) (hn : n ≤ 100) (h20 : 20 ≤ n) (h1 : ¬ f 0 < 69) (h2 : f 0 ≤ 71) : ∃ q, 20 ≤ q ∧ q ≤ 28 ∧ wIpN n f = q ∧ mQ f = q ∧ 4 * (f 0 - 64) = nI q := by
  rw [hf 0] at h1 h2
  have a1 : ¬ g 0 < 69 := fun z => h1 (nI_lt (b := 69) z (by omega))
  have a2 : g 0 ≤ 71 := (nI_leI (b := 71) (by have := hg 0; omega) (by omega)).mp h2
  have e : 4 * (f 0 - 64) = nI (4 * (g 0 - 64)) := by rw [hf 0, show (64 : Int32) = nI 64 from rfl, pk_sub (by omega), show (4 : Int32) = nI 4 from rfl, pk_mul]
  refine ⟨4 * (g 0 - 64), by omega, by omega, ?_, ?_, e⟩
  · unfold wIpN
    rw [show wA n f 0 = f 0 from u_wA (k := 0) hn (by omega), hf 0, u_clampB (hg 0)]; omega
  · unfold mQ
    rw [e, nI_clamp (by omega)]
theorem u_words (hf : ∀ j, f j = nI (g j)) (hg : ∀ j, g j < 256) (k : Nat) : f k >>> ((4 : Int32) &&& 31) = nI (g k / 16) := by
  rw [hf k, pk_shrN (by have := hg k; omega) _ 4 (by decide)]
/-- what a packet is, with the numbers that both read -/
theorem u_fault (hf : ∀ j, f j = nI (g j)) (hg : ∀ j, g j < 256) (hn : n ≤ 100) (s : Prop) [Decidable s] : wFault n f s = mRea n f s ∧ (wFault n f s = 0 → 20 ≤ n ∧ ∃ q L w : Nat, wIpN n f = q ∧ mQ f = q ∧ 4 * (f 0 - 64) = nI q ∧ 20 ≤ q ∧ q ≤ 28 ∧ wPair n f 2 = nI L ∧ mPair f 2 = nI L ∧ q + 20 ≤ L ∧ L ≤ n ∧ wTw n f = nI w ∧ f (q + 12) >>> ((4 : Int32) &&& 31) = nI w ∧ 5 ≤ w ∧ w ≤ 8 ∧ q + 4 * w ≤ L) ∧ (mRea n f s = 0 ∨ 0 < mRea n f s) := by
  unfold wFault mRea
  by_cases h20 : 20 ≤ nI n
  · have n20 : 20 ≤ n := (nI_leI (a := 20) (by omega) (by omega)).mp h20
    rw [if_pos h20, if_pos h20, show wA n f 0 = f 0 from u_wA (k := 0) hn (by omega), show mK f 0 = f 0 from rfl]
    by_cases h1 : f 0 < 69
    · rw [if_pos h1, if_pos h1]; exact ⟨rfl, fun z => absurd z (by decide), Or.inr (by decide)⟩
    · rw [if_neg h1, if_neg h1]
      by_cases h2 : f 0 ≤ 71
      · rw [if_pos h2, if_pos h2]
        obtain ⟨q, q1, q2, eq1, eq2, eq3⟩ := u_q hf hg hn n20 h1 h2
        have eP : wPair n f 2 = mPair f 2 := u_wPair hn (k := 2) (by omega) 2 rfl
        have eL := u_pairN hf hg 2
        have hL9 : 256 * g 2 + g 3 < 65536 := by have := hg 2; have := hg 3; omega
        rw [eP, eL, eq1, eq2]
        by_cases h3 : nI n < nI (256 * g 2 + g 3)
        · rw [if_pos h3, if_pos h3]; exact ⟨rfl, fun z => absurd z (by decide), Or.inr (by decide)⟩
        · rw [if_neg h3, if_neg h3]
          have hLn : 256 * g 2 + g 3 ≤ n := Nat.le_of_not_lt (fun z => h3 (nI_lt z (by omega)))
          by_cases h4 : nI q + 20 ≤ nI (256 * g 2 + g 3)
          · rw [if_pos h4, if_pos h4]
            have hqL : q + 20 ≤ 256 * g 2 + g 3 := by
              rw [show (20 : Int32) = nI 20 from rfl, nI_add] at h4
              exact (nI_leI (by omega) (by omega)).mp h4
            have e1 : wIs n f = mHs f q := by unfold wIs; rw [eq1]; exact (u_hs hf hg hn (by omega)).1
            rw [e1]
            have e6 : wPair n f 6 = mPair f 6 := u_wPair hn (k := 6) (by omega) 6 rfl
            have e9 : wA n f 9 = f 9 := u_wA (k := 9) hn (by omega)
            have k9 : mK f 9 = f 9 := rfl
            have e12 : (nI q + 12 : Int32) = nI (q + 12) := by rw [show (12 : Int32) = nI 12 from rfl, nI_add]
            have eW := u_words hf hg (q + 12)
            have eW1 : wTw n f = nI (g (q + 12) / 16) := by
              unfold wTw; rw [eq1, e12, u_wA hn (by omega)]; exact eW
            have eW2 : mWd f = nI (g (q + 12) / 16) := by
              show f (nI (mQ f) + 12).toNatClampNeg >>> ((4 : Int32) &&& 31) = _
              rw [eq2, e12, nI_clamp (by omega)]; exact eW
            have hw9 := hg (q + 12)
            have eD : wDs n f = nI (q + 4 * (g (q + 12) / 16)) := by
              unfold wDs; rw [eq1, eW1, show (4 : Int32) = nI 4 from rfl, pk_mul, nI_add, Nat.mul_comm]
            have eD2 : nI q + 4 * nI (g (q + 12) / 16) = nI (q + 4 * (g (q + 12) / 16)) := by
              rw [show (4 : Int32) = nI 4 from rfl, pk_mul, nI_add]
            rw [e6, e9, k9, eW1, eW2, eD, eD2, nI_clamp (n := 256 * g 2 + g 3) (by omega)]
            have e2 : wTs n f (256 * g 2 + g 3) = mPs f q (256 * g 2 + g 3) := by unfold wTs; rw [eq1]; exact (u_ps hf hg hn (by omega) hLn n20).1
            rw [e2]
            by_cases h5 : s ∧ ¬ mHs f q = 65535
            · rw [if_pos h5]; exact ⟨rfl, fun z => absurd z (by decide), Or.inr (by decide)⟩
            · rw [if_neg h5]
              by_cases h6 : mPair f 6 &&& 16383 = 0
              · rw [if_pos h6]
                by_cases h7 : f 9 = 6
                · rw [if_pos h7]
                  by_cases h8 : nI (g (q + 12) / 16) < 5
                  · rw [if_pos h8]; exact ⟨rfl, fun z => absurd z (by decide), Or.inr (by decide)⟩
                  · rw [if_neg h8]
                    by_cases h9 : 8 < nI (g (q + 12) / 16)
                    · rw [if_pos h9]; exact ⟨rfl, fun z => absurd z (by decide), Or.inr (by decide)⟩
                    · rw [if_neg h9]
                      have w5 : 5 ≤ g (q + 12) / 16 := Nat.le_of_not_lt (fun z => h8 (nI_lt (b := 5) z (by omega)))
                      have w8 : g (q + 12) / 16 ≤ 8 := Nat.le_of_not_lt (fun z => h9 (nI_lt (a := 8) z (by omega)))
                      by_cases h10 : nI (q + 4 * (g (q + 12) / 16)) ≤ nI (256 * g 2 + g 3)
                      · rw [if_pos h10]
                        have hD : q + 4 * (g (q + 12) / 16) ≤ 256 * g 2 + g 3 := (nI_leI (by omega) (by omega)).mp h10
                        refine ⟨rfl, fun _ => ⟨n20, q, 256 * g 2 + g 3, g (q + 12) / 16, rfl, rfl, eq3, q1, q2, rfl, rfl, hqL, hLn, rfl, eW, w5, w8, hD⟩, ?_⟩
                        by_cases h11 : s ∧ ¬ mPs f q (256 * g 2 + g 3) = 65535
                        · rw [if_pos h11]; exact Or.inr (by decide)
                        · rw [if_neg h11]; exact Or.inl rfl
                      · rw [if_neg h10]; exact ⟨rfl, fun z => absurd z (by decide), Or.inr (by decide)⟩
                · rw [if_neg h7]; exact ⟨rfl, fun z => absurd z (by decide), Or.inr (by decide)⟩
              · rw [if_neg h6]; exact ⟨rfl, fun z => absurd z (by decide), Or.inr (by decide)⟩
          · rw [if_neg h4, if_neg h4]; exact ⟨rfl, fun z => absurd z (by decide), Or.inr (by decide)⟩
      · rw [if_neg h2, if_neg h2]; exact ⟨rfl, fun z => absurd z (by decide), Or.inr (by decide)⟩
  · rw [if_neg h20, if_neg h20]; exact ⟨rfl, fun z => absurd z (by decide), Or.inr (by decide)⟩
end FLT
