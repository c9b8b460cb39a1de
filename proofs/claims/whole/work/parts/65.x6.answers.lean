/-! Pure (by program: wip/whole/pure/lay.py) -/
/-! What both tell of flows and streams -/
theorem u_aft {ha hr us : Nat → Int32} {lv : Nat → Bool} (h : ∀ j, j < 4 → ha j = hr j ∧ (lv j = true ↔ ¬ us j = 0)) (b : Int32) : ∀ (r i : Nat) (c : Int32), i + r = 4 → hAft ha lv b r i c = mAft us hr b r i c := by
  intro r
  induction r with
  | zero => intro i c _; rfl
  | succ r ih =>
    intro i c hi
    unfold hAft mAft
    have e : hStep c (lv i) (ha i) b = mSt c (us i) (hr i) b := by
      unfold hStep mSt
      obtain ⟨h1, h2⟩ := h i (by omega)
      rw [h1]
      by_cases q : lv i = true ∧ ¬ hr i ≤ b
      · rw [if_pos q, if_pos ⟨h2.mp q.1, q.2⟩]
      · rw [if_neg q, if_neg (fun z => q ⟨h2.mpr z.1, z.2⟩), Int32.add_zero]
    rw [e]
    exact ih (i + 1) _ (by omega)
theorem u_w4 {w : Int32} (h0 : ¬ w = 0) (h1 : ¬ w = 1) (h2 : ¬ w = 2) (h3 : ¬ w = 3) : w < 0 ∨ 4 ≤ w := by
  rcases pk_ix w (n := 4) (by omega) with h | h | ⟨j, hj, e⟩
  · exact Or.inl h
  · exact Or.inr h
  · exfalso
    have : j = 0 ∨ j = 1 ∨ j = 2 ∨ j = 3 := by omega
    rcases this with q | q | q | q <;> subst q
    · exact h0 e
    · exact h1 e
    · exact h2 e
    · exact h3 e
theorem u_flow {ch cp sh sp ha rh rp9 rs rq hr us : Nat → Int32} {lv : Nat → Bool} (h : ∀ j, j < 4 → ch j = rh j ∧ cp j = rp9 j ∧ sh j = rs j ∧ sp j = rq j ∧ ha j = hr j ∧ (lv j = true ↔ ¬ us j = 0)) {j : Nat} (hj : j < 4) (hl : lv j = true) (w : Int32) : qFlow ch cp sh sp ha lv j w = mFlw us rh rp9 rs rq hr j w := by
  obtain ⟨a1, a2, a3, a4, a5, a6⟩ := h j hj
  unfold qFlow mFlw
  rw [if_pos hl, a1, a2, a3, a4, a5, u_aft (fun i hi => ⟨(h i hi).2.2.2.2.1, (h i hi).2.2.2.2.2⟩) (hr j) 4 0 0 (by omega)]
  by_cases h0 : w = 0
  · subst h0; rfl
  · by_cases h1 : w = 1
    · subst h1; rfl
    · by_cases h2 : w = 2
      · subst h2; rfl
      · by_cases h3 : w = 3
        · subst h3; rfl
        · by_cases h4 : w = 4
          · subst h4; rfl
          · rw [if_neg h0, if_neg h1, if_neg h2, if_neg h3, if_neg h4]
            rcases u_w4 h0 h1 h2 h3 with q | q
            · rw [if_pos q]
            · have q1 : ¬ w < 0 := by
                rw [Int32.le_iff_toInt_le] at q
                rw [Int32.lt_iff_toInt_lt]
                have : (4 : Int32).toInt = 4 := by decide
                rw [Int32.toInt_zero]; omega
              have q2 : ¬ w ≤ 4 := by
                intro z
                apply h4
                rw [Int32.le_iff_toInt_le] at q z
                exact Int32.toInt_inj.mp (by omega)
              rw [if_neg q1, if_neg q2]
theorem u_str {t : Nat} {tx1 hd : Nat → Int32} {ts : Nat → Nat} {hs nx rr : Nat → Int32} {bg en : Nat → Bool} {bgn nxR en9 sz tx hl hb ra : Nat → Int32} (h : uStm t tx1 hd (ts t) (hs t) (nx t) (rr t) (bg t) (en t) bgn nxR en9 sz tx hl hb ra) (w : Int32) : qStr ts hs nx en t w = mStr sz nxR en9 hl t w := by
  obtain ⟨h1, h2, h3, h4, h5, h6, h7, h8, h9, h10⟩ := h
  have e : mCnt hl t 32 0 0 = nI (uN hl t 32 0) := by
    have := u_cnt hl t 32 0 0
    rw [Nat.zero_add] at this
    exact this
  unfold qStr mStr
  rw [e, h2, h4, h6]
  by_cases h0 : w = 0
  · subst h0; rfl
  · by_cases h1 : w = 1
    · subst h1; rfl
    · by_cases h2 : w = 2
      · subst h2; rfl
      · by_cases h3 : w = 3
        · subst h3
          show (if en t = true then (1 : Int32) else 0) = if en9 t = 0 then 0 else 1
          by_cases z : en t = true
          · rw [if_pos z, if_neg (h8.mp z)]
          · rw [if_neg z, if_pos (Classical.byContradiction (fun y => z (h8.mpr y)))]
        · rw [if_neg h0, if_neg h1, if_neg h2, if_neg h3]
          rcases u_w4 h0 h1 h2 h3 with q | q
          · rw [if_pos q]
          · have q1 : ¬ w < 0 := by
              rw [Int32.le_iff_toInt_le] at q
              rw [Int32.lt_iff_toInt_lt]
              have : (4 : Int32).toInt = 4 := by decide
              rw [Int32.toInt_zero]; omega
            have q2 : ¬ w ≤ 3 := by
              rw [Int32.le_iff_toInt_le] at q ⊢
              have : (4 : Int32).toInt = 4 := by decide
              have : (3 : Int32).toInt = 3 := by decide
              omega
            rw [if_neg q1, if_neg q2]
theorem u_txt {t : Nat} {tx1 hd : Nat → Int32} {ts : Nat} {hs nx rr : Int32} {bg en : Bool} {bgn nxR en9 sz tx hl hb ra : Nat → Int32} (h : uStm t tx1 hd ts hs nx rr bg en bgn nxR en9 sz tx hl hb ra) (k : Int32) : sAt tx1 ts k = mTxt tx ts t k := by
  obtain ⟨h1, h2, h3, _⟩ := h
  unfold sAt mTxt
  by_cases q : 0 ≤ k
  · rw [if_pos q]
    have q0 : ¬ k < 0 := by
      rw [Int32.le_iff_toInt_le] at q
      rw [Int32.lt_iff_toInt_lt]; omega
    obtain ⟨i, hi, e⟩ := nI_of q0
    subst e
    by_cases z : i < ts
    · rw [if_pos ⟨q, nI_lt z (by omega)⟩, if_neg (nI_ge z (by omega)), nI_clamp hi, h3 i z]
    · rw [if_neg (fun y => z ((nI_ltI hi (by omega)).mp y.2)), if_pos (nI_le (by omega) hi)]
  · rw [if_neg q, if_neg (fun y => q y.1)]
/-! A rule, an option come in -/
theorem u_rlsE {P Q : oT → Nat → Prop} : ∀ (os : List oT) (i : Nat), (∀ o k, i ≤ k → k < i + os.length → P o k → Q o k) → uRls P os i → uRls Q os i := by
  intro os
  induction os with
  | nil => intro i _ _; trivial
  | cons o os ih =>
    intro i h q
    have e : (o :: os).length = os.length + 1 := rfl
    exact ⟨h o i (by omega) (by omega) q.1, ih (i + 1) (fun o2 k a b => h o2 k (by omega) (by omega)) q.2⟩
theorem u_rlsA {P : oT → Nat → Prop} (o : oT) : ∀ (os : List oT) (i : Nat), uRls P os i → P o (i + os.length) → uRls P (os ++ [o]) i := by
  intro os
  induction os with
  | nil => intro i _ h; exact ⟨h, trivial⟩
  | cons x os ih =>
    intro i q h
    have e : (x :: os).length = os.length + 1 := rfl
    exact ⟨q.1, ih (i + 1) q.2 (by rw [show i + 1 + os.length = i + (x :: os).length by omega]; exact h)⟩
theorem u_rule {rc : Nat} {wy pt : Nat → Int32} {os : Nat → List oT} {R : mR} (h : uRul rc wy pt os R) (h6 : rc < 6) (w p : Int32) : uRul (rc + 1) (va_up wy rc w) (va_up pt rc p) (va_up os rc []) ⟨R.cp, R.sp, R.sz, R.tx, upd R.rw9 rc w, upd R.rp rc p, upd R.op rc 0, R.cs, R.ct, R.mk', R.lst, R.spn, R.cN, va_up R.oN rc 0⟩ := by
  refine ⟨by omega, fun r hr => ?_⟩
  by_cases e : r = rc
  · subst e
    show va_up wy r w r = upd R.rw9 r w r ∧ va_up pt r p r = upd R.rp r p r ∧ (va_up os r [] r).length = va_up R.oN r 0 r ∧ va_up R.oN r 0 r ≤ 3 ∧ upd R.op r 0 r = nI (va_up R.oN r 0 r) ∧ uRls _ (va_up os r [] r) 0
    rw [u_upS, u_upS, u_upS, u_upS, pk_us, pk_us, pk_us]
    exact ⟨rfl, rfl, rfl, by omega, rfl, trivial⟩
  · obtain ⟨a1, a2, a3, a4, a5, a6⟩ := h.2 r (by omega)
    show va_up wy rc w r = upd R.rw9 rc w r ∧ va_up pt rc p r = upd R.rp rc p r ∧ (va_up os rc [] r).length = va_up R.oN rc 0 r ∧ va_up R.oN rc 0 r ≤ 3 ∧ upd R.op rc 0 r = nI (va_up R.oN rc 0 r) ∧ uRls _ (va_up os rc [] r) 0
    rw [u_upN _ _ e, u_upN _ _ e, u_upN _ _ e, u_upN _ _ e, pk_un e, pk_un e, pk_un e]
    exact ⟨a1, a2, a3, a4, a5, a6⟩
theorem u_ct (c x : Nat) (v : Int64) : ∀ (r k : Nat) (g : Nat → Int32) (i : Nat), mCt c x v r k g i = if 6 * x + k ≤ i ∧ i < 6 * x + k + r then mL v (nI c - 1 - nI (i - 6 * x)) else g i := by
  intro r
  induction r with
  | zero => intro k g i; rw [if_neg (show ¬ (6 * x + k ≤ i ∧ i < 6 * x + k + 0) by omega)]; rfl
  | succ r ih =>
    intro k g i
    show mCt c x v r (k + 1) _ i = _
    rw [ih]
    by_cases h : 6 * x + (k + 1) ≤ i ∧ i < 6 * x + (k + 1) + r
    · rw [if_pos h, if_pos (show 6 * x + k ≤ i ∧ i < 6 * x + k + (r + 1) by omega)]
    · rw [if_neg h]
      by_cases e : i = 6 * x + k
      · subst e; rw [pk_us, if_pos (show 6 * x + k ≤ 6 * x + k ∧ 6 * x + k < 6 * x + k + (r + 1) by omega), show 6 * x + k - 6 * x = k by omega]
      · rw [pk_un e, if_neg (show ¬ (6 * x + k ≤ i ∧ i < 6 * x + k + (r + 1)) by omega)]
/-- the option that the class makes -/
def uNew (c : Nat) (v : Int64) (m a b : Int32) : oT := (decide (¬ m &&& 2 = 0), decide (¬ m &&& 4 = 0), a, (if b = 0 then 80 else a + b - nI c), c, v, decide (¬ m &&& 1 = 0))
theorem u_and1 (x : Int32) : x &&& 1 = 0 ∨ x &&& 1 = 1 := by
  have e : (x &&& 1).toBitVec.toNat = if x.toBitVec.toNat.testBit 0 = true then 2 ^ 0 else 0 := by
    rw [Int32.toBitVec_and, BitVec.toNat_and]
    exact u_andP _ 0
  by_cases h : x.toBitVec.toNat.testBit 0 = true
  · rw [if_pos h] at e
    exact Or.inr (Int32.toBitVec_inj.mp (BitVec.eq_of_toNat_eq e))
  · rw [if_neg h] at e
    exact Or.inl (Int32.toBitVec_inj.mp (BitVec.eq_of_toNat_eq e))
theorem u_rangeI {a lo hi : Int32} (h1 : ¬ a < lo) (h2 : ¬ hi < a) : lo.toInt ≤ a.toInt ∧ a.toInt ≤ hi.toInt := by
  rw [Int32.lt_iff_toInt_lt] at h1 h2; omega
theorem u_option {rc : Nat} {wy pt : Nat → Int32} {os : Nat → List oT} {R : mR} (h : uRul rc wy pt os R) (h0 : 0 < rc) {j : Nat} (hj : R.oN (rc - 1) = j) (hj3 : j < 3) {c : Nat} (hc1 : 1 ≤ c) (hc6 : c ≤ 6) (v : Int64) {m a b : Int32} (ha1 : ¬ a < -80) (ha2 : ¬ 80 < a) (hb1 : ¬ b < 0) (hb2 : b ≤ 80) {x : Nat} (hx : x = 3 * (rc - 1) + j) :
    uRul rc wy pt (va_up os (rc - 1) (os (rc - 1) ++ [uNew c v m a b])) ⟨R.cp, R.sp, R.sz, R.tx, R.rw9, R.rp, upd R.op (rc - 1) (nI (j + 1)), upd R.cs x (nI c), mCt c x v c 0 R.ct, upd R.mk' x m, upd R.lst x a, upd R.spn x b, va_up R.cN x c, va_up R.oN (rc - 1) (j + 1)⟩ := by
  refine ⟨h.1, fun r hr => ?_⟩
  obtain ⟨a1, a2, a3, a4, a5, a6⟩ := h.2 r hr
  have hr6 := h.1
  -- an option at another place is left
  have keep : ∀ o k, k < 3 → 3 * r + k ≠ x → uOp1 R.ct R.mk' R.lst R.spn R.cs R.cN r o k → uOp1 (mCt c x v c 0 R.ct) (upd R.mk' x m) (upd R.lst x a) (upd R.spn x b) (upd R.cs x (nI c)) (va_up R.cN x c) r o k := by
    intro o k hk hne q
    unfold uOp1 at q ⊢
    rw [pk_un (f := R.mk') hne, pk_un (f := R.lst) hne, pk_un (f := R.spn) hne, pk_un (f := R.cs) hne, u_upN _ _ hne]
    obtain ⟨q1, q2, q3, q4, q5, q6, q7, q8, q9⟩ := q
    refine ⟨q1, q2, q3, q4, q5, q6, q7, fun i hi => ?_, q9⟩
    rw [u_ct, if_neg (by omega)]
    exact q8 i hi
  by_cases e : r = rc - 1
  · subst e
    show wy (rc - 1) = R.rw9 (rc - 1) ∧ pt (rc - 1) = R.rp (rc - 1) ∧ (va_up os (rc - 1) (os (rc - 1) ++ [uNew c v m a b]) (rc - 1)).length = va_up R.oN (rc - 1) (j + 1) (rc - 1) ∧ va_up R.oN (rc - 1) (j + 1) (rc - 1) ≤ 3 ∧ upd R.op (rc - 1) (nI (j + 1)) (rc - 1) = nI (va_up R.oN (rc - 1) (j + 1) (rc - 1)) ∧ uRls _ (va_up os (rc - 1) (os (rc - 1) ++ [uNew c v m a b]) (rc - 1)) 0
    rw [u_upS, u_upS, pk_us]
    refine ⟨a1, a2, by rw [List.length_append, a3, hj]; rfl, by omega, rfl, ?_⟩
    refine u_rlsA _ _ _ (u_rlsE _ 0 (fun o k _ hk q => keep o k (by omega) (by omega) q) a6) ?_
    show uOp1 (mCt c x v c 0 R.ct) (upd R.mk' x m) (upd R.lst x a) (upd R.spn x b) (upd R.cs x (nI c)) (va_up R.cN x c) (rc - 1) (uNew c v m a b) _
    rw [Nat.zero_add, a3, hj]
    unfold uOp1 uNew
    rw [← hx, pk_us, pk_us, pk_us, pk_us, u_upS]
    have r80 : (80 : Int32).toInt = 80 := by decide
    have rm80 : (-80 : Int32).toInt = -80 := by decide
    have g1 := u_rangeI ha1 ha2
    have g2 : 0 ≤ b.toInt ∧ b.toInt ≤ 80 := by
      rw [Int32.lt_iff_toInt_lt, Int32.toInt_zero] at hb1
      rw [Int32.le_iff_toInt_le] at hb2
      omega
    refine ⟨decide_eq_true_iff, decide_eq_true_iff, rfl, hc1, hc6, rfl, ?_, ?_, rfl, by omega, by omega, g2.1, g2.2, rfl⟩
    · show decide (¬ m &&& 1 = 0) = decide (m &&& 1 = 1)
      rcases u_and1 m with z | z
      · rw [z]; decide
      · rw [z]; decide
    · intro k hk
      rw [u_ct, if_pos (by omega), show 6 * x + k - 6 * x = k by omega]
      show mL v (nI c - 1 - nI k) = wB v (nI c - 1 - nI k)
      have : nI c - 1 - nI k = nI (c - 1 - k) := by rw [show (1 : Int32) = nI 1 from rfl, pk_sub (by omega), pk_sub (by omega)]
      rw [this, u_wB (by omega)]
  · show wy r = R.rw9 r ∧ pt r = R.rp r ∧ (va_up os (rc - 1) (os (rc - 1) ++ [uNew c v m a b]) r).length = va_up R.oN (rc - 1) (j + 1) r ∧ va_up R.oN (rc - 1) (j + 1) r ≤ 3 ∧ upd R.op (rc - 1) (nI (j + 1)) r = nI (va_up R.oN (rc - 1) (j + 1) r) ∧ uRls _ (va_up os (rc - 1) (os (rc - 1) ++ [uNew c v m a b]) r) 0
    rw [u_upN _ _ e, u_upN _ _ e, pk_un e]
    exact ⟨a1, a2, a3, a4, a5, u_rlsE _ 0 (fun o k _ hk q => keep o k (by omega) (by omega) q) a6⟩
