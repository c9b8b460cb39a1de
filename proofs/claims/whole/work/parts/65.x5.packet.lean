/-! Pure (by program: wip/whole/pure/lay.py) -/
/-! A packet's bytes come into the window -/
theorem u_hlO {hl : Nat → Int32} {t : Nat} (ht : t < 8) (x : Int32) {j : Nat} (hj : j < 32 * t ∨ 32 * t + 32 ≤ j) : mHl hl t x j = hl j := by
  unfold mHl
  by_cases h1 : x < 0
  · rw [if_pos h1]
  · rw [if_neg h1]
    obtain ⟨i, hi, e⟩ := nI_of h1
    subst e
    by_cases h2 : nI i ≤ 31
    · rw [if_pos h2]
      have : i ≤ 31 := (nI_leI hi (b := 31) (by omega)).mp h2
      have ex : mHx t (nI i) = 32 * t + i := by
        show (32 * nI t + nI i).toNatClampNeg = _
        rw [show (32 : Int32) = nI 32 from rfl, pk_mul, nI_add, nI_clamp (by omega)]
      rw [ex, pk_un (by omega)]
    · rw [if_neg h2]
theorem u_hbO {hl hb : Nat → Int32} {ls : Bool} {t : Nat} (ht : t < 8) (x v : Int32) {j : Nat} (hj : j < 32 * t ∨ 32 * t + 32 ≤ j) : mHb hl hb ls t x v j = hb j := by
  unfold mHb
  by_cases h1 : x < 0
  · rw [if_pos h1]
  · rw [if_neg h1]
    obtain ⟨i, hi, e⟩ := nI_of h1
    subst e
    by_cases h2 : nI i ≤ 31
    · rw [if_pos h2]
      have : i ≤ 31 := (nI_leI hi (b := 31) (by omega)).mp h2
      have ex : mHx t (nI i) = 32 * t + i := by
        show (32 * nI t + nI i).toNatClampNeg = _
        rw [show (32 : Int32) = nI 32 from rfl, pk_mul, nI_add, nI_clamp (by omega)]
      rw [ex]
      split
      · rw [pk_un (by omega)]
      · rfl
    · rw [if_neg h2]
theorem u_hold {f : Nat → Int32} (hf : uByt f) {ls : Bool} {t n da : Nat} (ht : t < 8) (hn : n ≤ 100) {nx st : Int32} : ∀ (r i : Nat) (hd hl hb : Nat → Int32), da + i + r ≤ n → uWin t hd nx hl hb →
    uWin t (sHl nx st (nI da) n f ls r i hd (nI (uN hl t 32 0))).1 nx (mHd f ls t nx st da r (da + i) hl hb).1 (mHd f ls t nx st da r (da + i) hl hb).2 ∧ (sHl nx st (nI da) n f ls r i hd (nI (uN hl t 32 0))).2 = nI (uN (mHd f ls t nx st da r (da + i) hl hb).1 t 32 0) ∧
    ∀ j, (j < 32 * t ∨ 32 * t + 32 ≤ j) → (mHd f ls t nx st da r (da + i) hl hb).1 j = hl j ∧ (mHd f ls t nx st da r (da + i) hl hb).2 j = hb j := by
  intro r
  induction r with
  | zero => intro i hd hl hb _ h; exact ⟨h, rfl, fun j _ => ⟨rfl, rfl⟩⟩
  | succ r ih =>
    intro i hd hl hb hr h
    unfold sHl mHd
    have e1 : st + nI (da + i) - nI da = st + nI i := by
      rw [← nI_add, Int32.add_comm (nI da), ← Int32.add_assoc, Int32.add_sub_cancel]
    have e2 : wA n f (nI da + nI i) = f (da + i) := by rw [nI_add, u_wA hn (by omega)]
    rw [e1, e2]
    obtain ⟨a1, a2⟩ := u_winHold ht h (st + nI i) (f (da + i)) ls (hf (da + i)).2 (hf (da + i)).1
    rw [a2]
    obtain ⟨b1, b2, b3⟩ := ih (i + 1) _ _ _ (by omega) a1
    rw [show da + i + 1 = da + (i + 1) by omega]
    refine ⟨b1, b2, fun j hj => ⟨?_, ?_⟩⟩
    · rw [(b3 j hj).1, u_hlO ht _ hj]
    · rw [(b3 j hj).2, u_hbO ht _ _ hj]
/-! Flows: found, made -/
theorem u_ix {i : Nat} (hi : i < 4) : mIx i = i := nI_clamp (by omega)
theorem u_findF {ch cp sh sp : Nat → Int32} {lv : Nat → Bool} {us rh rp9 rs rq : Nat → Int32} (hl : ∀ j, j < 4 → (lv j = true ↔ ¬ us j = 0)) (h1 : ∀ j, j < 4 → ch j = rh j ∧ cp j = rp9 j ∧ sh j = rs j ∧ sp j = rq j) (fh fp th tp : Int32) : ∀ (r i : Nat), i + r = 4 →
    (fOf ch cp sh sp lv fh fp th tp r i = none ∧ mFnd us rh rp9 rs rq fh fp th tp r i = -1) ∨ ∃ j y, j < 4 ∧ y < 2 ∧ fOf ch cp sh sp lv fh fp th tp r i = some j ∧ lv j = true ∧ fWay (ch j) (cp j) (sh j) (sp j) fh fp th tp = nI y ∧ mFnd us rh rp9 rs rq fh fp th tp r i = nI (2 * j + y) := by
  intro r
  induction r with
  | zero => intro i _; exact Or.inl ⟨rfl, rfl⟩
  | succ r ih =>
    intro i hi
    unfold fOf mFnd
    have hi4 : i < 4 := by omega
    have ex := u_ix hi4
    have e1 : mE1 us rh rp9 rs rq fh fp th tp i ↔ lv i = true ∧ ((ch i = fh ∧ cp i = fp) ∧ (sh i = th ∧ sp i = tp)) := by
      show (¬ us (mIx i) = 0 ∧ rh (mIx i) = fh ∧ rp9 (mIx i) = fp ∧ rs (mIx i) = th ∧ rq (mIx i) = tp) ↔ _
      rw [ex, hl i hi4, (h1 i hi4).1, (h1 i hi4).2.1, (h1 i hi4).2.2.1, (h1 i hi4).2.2.2]
      exact ⟨fun ⟨a, b, c, d, e⟩ => ⟨a, ⟨b, c⟩, d, e⟩, fun ⟨a, ⟨b, c⟩, d, e⟩ => ⟨a, b, c, d, e⟩⟩
    have e2 : mE1 us rh rp9 rs rq th tp fh fp i ↔ lv i = true ∧ ((sh i = fh ∧ sp i = fp) ∧ (ch i = th ∧ cp i = tp)) := by
      show (¬ us (mIx i) = 0 ∧ rh (mIx i) = th ∧ rp9 (mIx i) = tp ∧ rs (mIx i) = fh ∧ rq (mIx i) = fp) ↔ _
      rw [ex, hl i hi4, (h1 i hi4).1, (h1 i hi4).2.1, (h1 i hi4).2.2.1, (h1 i hi4).2.2.2]
      exact ⟨fun ⟨a, b, c, d, e⟩ => ⟨a, ⟨d, e⟩, b, c⟩, fun ⟨a, ⟨d, e⟩, b, c⟩ => ⟨a, b, c, d, e⟩⟩
    by_cases q1 : mE1 us rh rp9 rs rq fh fp th tp i
    · have w : fWay (ch i) (cp i) (sh i) (sp i) fh fp th tp = 0 := if_pos (e1.mp q1).2
      have fi : fIs ch cp sh sp lv fh fp th tp i := ⟨(e1.mp q1).1, by rw [w]; decide⟩
      rw [if_pos q1, if_pos fi]
      exact Or.inr ⟨i, 0, hi4, by omega, rfl, (e1.mp q1).1, w, by rw [show (2 : Int32) = nI 2 from rfl, pk_mul]; rfl⟩
    · rw [if_neg q1]
      by_cases q2 : mE1 us rh rp9 rs rq th tp fh fp i
      · have w : fWay (ch i) (cp i) (sh i) (sp i) fh fp th tp = 1 := by
          unfold fWay
          rw [if_neg (fun z => q1 (e1.mpr ⟨(e2.mp q2).1, z⟩)), if_pos (e2.mp q2).2]
        have fi : fIs ch cp sh sp lv fh fp th tp i := ⟨(e2.mp q2).1, by rw [w]; decide⟩
        rw [if_pos q2, if_pos fi]
        exact Or.inr ⟨i, 1, hi4, by omega, rfl, (e2.mp q2).1, w, by rw [show (2 : Int32) = nI 2 from rfl, pk_mul, nI_1]⟩
      · rw [if_neg q2]
        have fi : ¬ fIs ch cp sh sp lv fh fp th tp i := by
          rintro ⟨a, b⟩
          apply b
          unfold fWay
          rw [if_neg (fun z => q1 (e1.mpr ⟨a, z⟩)), if_neg (fun z => q2 (e2.mpr ⟨a, z⟩))]
        rw [if_neg fi]
        exact ih (i + 1) (by omega)
theorem u_sel {lv : Nat → Bool} {us ha : Nat → Int32} {hr : Nat → Int32} (hl : ∀ j, j < 4 → (lv j = true ↔ ¬ us j = 0)) (he : ∀ j, j < 4 → ha j = hr j) : ∀ (r i q : Nat), i + r = 4 → q < 4 → lv q = true → fSel lv ha r i q = mRoom us hr r i q ∧ mRoom us hr r i q < 4 := by
  intro r
  induction r with
  | zero => intro i q _ hq _; exact ⟨rfl, hq⟩
  | succ r ih =>
    intro i q hi hq hlq
    unfold fSel mRoom
    rw [if_pos hlq]
    by_cases h : lv i = true
    · rw [if_pos h, if_neg ((hl i (by omega)).mp h)]
      rw [he q hq, he i (by omega)]
      by_cases h2 : hr q ≤ hr i
      · rw [if_pos h2, if_pos h2]; exact ih (i + 1) q (by omega) hq hlq
      · rw [if_neg h2, if_neg h2]; exact ih (i + 1) i (by omega) (by omega) h
    · rw [if_neg h]
      have hu : us i = 0 := Classical.byContradiction (fun z => h ((hl i (by omega)).mpr z))
      rw [if_pos hu]
      refine ⟨?_, by omega⟩
      cases r with
      | zero => rfl
      | succ r => unfold fSel; rw [if_neg h]
theorem u_room {lv : Nat → Bool} {us ha : Nat → Int32} {hr : Nat → Int32} (hl : ∀ j, j < 4 → (lv j = true ↔ ¬ us j = 0)) (he : ∀ j, j < 4 → ha j = hr j) : fSel lv ha 3 1 0 = mRoom us hr 4 0 0 ∧ mRoom us hr 4 0 0 < 4 := by
  unfold mRoom
  by_cases h : lv 0 = true
  · rw [if_neg ((hl 0 (by omega)).mp h)]
    have : (if hr 0 ≤ hr 0 then 0 else 0) = 0 := by split <;> rfl
    rw [this]
    exact u_sel hl he 3 1 0 (by omega) (by omega) h
  · have hu : us 0 = 0 := Classical.byContradiction (fun z => h ((hl 0 (by omega)).mpr z))
    rw [if_pos hu]
    refine ⟨?_, by omega⟩
    unfold fSel
    rw [if_neg h]

/-! The two states, and what a packet does to them -/
theorem u_clrU (g : Nat → Int32) (j t : Nat) : mClr mU0 2 (2 * j) g t = if t / 2 = j then 0 else g t := by
  show upd (upd g (2 * j) 0) (2 * j + 1) 0 t = _
  by_cases e : t = 2 * j + 1
  · rw [e, pk_us, if_pos (show (2 * j + 1) / 2 = j by omega)]
  · rw [pk_un e]
    by_cases e2 : t = 2 * j
    · rw [e2, pk_us, if_pos (show 2 * j / 2 = j by omega)]
    · rw [pk_un e2, if_neg (show ¬ t / 2 = j by omega)]
theorem u_zero (b : Nat) : ∀ (r k : Nat) (g : Nat → Int32) (i : Nat), mZero b r k g i = if b + k ≤ i ∧ i < b + k + r then 0 else g i := by
  intro r
  induction r with
  | zero => intro k g i; rw [if_neg (show ¬ (b + k ≤ i ∧ i < b + k + 0) by omega)]; rfl
  | succ r ih =>
    intro k g i
    show mZero b r (k + 1) _ i = _
    rw [ih]
    by_cases h : b + (k + 1) ≤ i ∧ i < b + (k + 1) + r
    · rw [if_pos h, if_pos (show b + k ≤ i ∧ i < b + k + (r + 1) by omega)]
    · rw [if_neg h]
      by_cases e : i = b + k
      · subst e; rw [pk_us, if_pos (show b + k ≤ b + k ∧ b + k < b + k + (r + 1) by omega)]
      · rw [pk_un e, if_neg (show ¬ (b + k ≤ i ∧ i < b + k + (r + 1)) by omega)]
theorem u_clr32 (g : Nat → Int32) (j i : Nat) : mClr mZ32 2 (2 * j) g i = if 64 * j ≤ i ∧ i < 64 * j + 64 then 0 else g i := by
  show mZero (32 * (2 * j + 1)) 32 0 (mZero (32 * (2 * j)) 32 0 g) i = _
  rw [u_zero, u_zero]
  by_cases h : 32 * (2 * j + 1) + 0 ≤ i ∧ i < 32 * (2 * j + 1) + 0 + 32
  · rw [if_pos h, if_pos (show 64 * j ≤ i ∧ i < 64 * j + 64 by omega)]
  · rw [if_neg h]
    by_cases h2 : 32 * (2 * j) + 0 ≤ i ∧ i < 32 * (2 * j) + 0 + 32
    · rw [if_pos h2, if_pos (show 64 * j ≤ i ∧ i < 64 * j + 64 by omega)]
    · rw [if_neg h2, if_neg (show ¬ (64 * j ≤ i ∧ i < 64 * j + 64) by omega)]
theorem u_clr6 (g : Nat → Int32) (j i : Nat) : mClr mZ6 2 (2 * j) g i = if 12 * j ≤ i ∧ i < 12 * j + 12 then 0 else g i := by
  show mZero (6 * (2 * j + 1)) 6 0 (mZero (6 * (2 * j)) 6 0 g) i = _
  rw [u_zero, u_zero]
  by_cases h : 6 * (2 * j + 1) + 0 ≤ i ∧ i < 6 * (2 * j + 1) + 0 + 6
  · rw [if_pos h, if_pos (show 12 * j ≤ i ∧ i < 12 * j + 12 by omega)]
  · rw [if_neg h]
    by_cases h2 : 6 * (2 * j) + 0 ≤ i ∧ i < 6 * (2 * j) + 0 + 6
    · rw [if_pos h2, if_pos (show 12 * j ≤ i ∧ i < 12 * j + 12 by omega)]
    · rw [if_neg h2, if_neg (show ¬ (12 * j ≤ i ∧ i < 12 * j + 12) by omega)]
theorem u_fill : ∀ (r k : Nat) (g : Nat → Int32) (i : Nat), sFill r k g i = if k ≤ i ∧ i < k + r then -1 else g i := by
  intro r
  induction r with
  | zero => intro k g i; rw [if_neg (show ¬ (k ≤ i ∧ i < k + 0) by omega)]; rfl
  | succ r ih =>
    intro k g i
    show sFill r (k + 1) _ i = _
    rw [ih]
    by_cases h : k + 1 ≤ i ∧ i < k + 1 + r
    · rw [if_pos h, if_pos (show k ≤ i ∧ i < k + (r + 1) by omega)]
    · rw [if_neg h]
      by_cases e : i = k
      · subst e; rw [pk_us, if_pos (show i ≤ i ∧ i < i + (r + 1) by omega)]
      · rw [pk_un e, if_neg (show ¬ (k ≤ i ∧ i < k + (r + 1)) by omega)]
theorem u_n0 (hl : Nat → Int32) (t : Nat) : ∀ (r k : Nat), (∀ j, k ≤ j → j < k + r → hl (32 * t + j) = 0) → uN hl t r k = 0 := by
  intro r
  induction r with
  | zero => intro k _; rfl
  | succ r ih =>
    intro k h
    show (if hl (32 * t + k) = 0 then 0 else 1) + uN hl t r (k + 1) = 0
    rw [if_pos (h k (by omega) (by omega)), ih (k + 1) (fun j a b => h j (by omega) (by omega))]
/-- a stream of the class and the reference's stream t -/
def uStm (t : Nat) (tx1 hd : Nat → Int32) (ts : Nat) (hs nx1 rr : Int32) (bg en : Bool) (bgn nx en9 sz tx hl hb ra : Nat → Int32) : Prop :=
  ts ≤ 80 ∧ sz t = nI ts ∧ (∀ j, j < ts → tx (80 * t + j) = tx1 j) ∧ nx t = nx1 ∧ uWin t hd nx1 hl hb ∧ hs = nI (uN hl t 32 0) ∧ (bg = true ↔ ¬ bgn t = 0) ∧ (en = true ↔ ¬ en9 t = 0) ∧ (∀ r, r < 6 → (raP r rr ↔ ra (6 * t + r) = 0)) ∧ (¬ bg = true → ∀ k, k < 32 → hl (32 * t + k) = 0)
theorem u_stmE {t : Nat} {tx1 hd : Nat → Int32} {ts : Nat} {hs nx1 rr : Int32} {bg en : Bool} {bgn nx en9 sz tx hl hb ra bgn' nx' en9' sz' tx' hl' hb' ra' : Nat → Int32} (h : uStm t tx1 hd ts hs nx1 rr bg en bgn nx en9 sz tx hl hb ra) (e1 : bgn' t = bgn t) (e2 : nx' t = nx t) (e3 : en9' t = en9 t) (e4 : sz' t = sz t) (e5 : ∀ j, 80 * t ≤ j → j < 80 * t + 80 → tx' j = tx j) (e6 : ∀ j, 32 * t ≤ j → j < 32 * t + 32 → hl' j = hl j ∧ hb' j = hb j) (e7 : ∀ j, 6 * t ≤ j → j < 6 * t + 6 → ra' j = ra j) : uStm t tx1 hd ts hs nx1 rr bg en bgn' nx' en9' sz' tx' hl' hb' ra' := by
  obtain ⟨h1, h2, h3, h4, h5, h6, h7, h8, h9, h10⟩ := h
  refine ⟨h1, by rw [e4]; exact h2, fun j hj => by rw [e5 _ (by omega) (by omega)]; exact h3 j hj, by rw [e2]; exact h4, ?_, ?_, by rw [e1]; exact h7, by rw [e3]; exact h8, fun r hr => by rw [e7 _ (by omega) (by omega)]; exact h9 r hr, fun z k hk => by rw [(e6 _ (by omega) (by omega)).1]; exact h10 z k hk⟩
  · intro k hk
    rw [(e6 _ (by omega) (by omega)).1, (e6 _ (by omega) (by omega)).2]
    exact h5 k hk
  · have q : uN hl t 32 0 = uN hl' t 32 0 := u_nE (a := hl) (b := hl') (t := t) (t2 := t) 32 0 (fun j a b => by rw [(e6 (32 * t + j) (by omega) (by omega)).1])
    rw [h6, q]
theorem u_stm0 {t : Nat} (tx1 hd : Nat → Int32) {bgn nx en9 sz tx hl hb ra : Nat → Int32} (hh : ∀ p, p < 32 → hd p = -1) (e1 : bgn t = 0) (e2 : nx t = 0) (e3 : en9 t = 0) (e4 : sz t = 0) (e6 : ∀ k, k < 32 → hl (32 * t + k) = 0) (e7 : ∀ r, r < 6 → ra (6 * t + r) = 0) : uStm t tx1 hd 0 0 0 0 false false bgn nx en9 sz tx hl hb ra := by
  refine ⟨by omega, e4, fun j hj => by omega, e2, ?_, ?_, ⟨fun z => absurd z (by decide), fun z => absurd e1 z⟩, ⟨fun z => absurd z (by decide), fun z => absurd e3 z⟩, fun r hr => ⟨fun _ => e7 r hr, fun _ => ?_⟩, fun _ k hk => e6 k hk⟩
  · intro k hk
    exact ⟨fun _ => hh _ (u_splL _), fun z => absurd (e6 k hk) z⟩
  · rw [u_n0 hl t 32 0 (fun j _ b => e6 j (by omega))]; rfl
  · rw [u_raP hr]
    show ¬ (0 : Int32).toBitVec.toNat.testBit r = true
    rw [show (0 : Int32).toBitVec.toNat = 0 from by decide, Nat.zero_testBit]
    decide
/-- flows, streams, alerts of both -/
def uRel (ph : Int32) (ch cp sh sp ha : Nat → Int32) (lv : Nat → Bool) (tx hd : Nat → Nat → Int32) (ts : Nat → Nat) (hs nx rr : Nat → Int32) (bg en : Nat → Bool) (rows : Nat → Int32) (tot : Int32) (a : Nat) (ck : Int32) (us rh rp9 rs rq hr bgn nxR enR sz txR hl hb : Nat → Int32) (ra at9 : Nat → Int32) (al : Int32) (N : Nat) : Prop :=
  ph = ck ∧ (∀ j, j < 4 → ch j = rh j ∧ cp j = rp9 j ∧ sh j = rs j ∧ sp j = rq j ∧ ha j = hr j ∧ (lv j = true ↔ ¬ us j = 0) ∧ (lv j = true → ¬ (en (2 * j) = true ∧ en (2 * j + 1) = true))) ∧ (∀ t, t < 8 → uStm t (tx t) (hd t) (ts t) (hs t) (nx t) (rr t) (bg t) (en t) bgn nxR enR sz txR hl hb ra) ∧ (∀ t, ts t ≤ 80) ∧ uRing rows a at9 N ∧ tot = nI N ∧ al = nI N
section WTC
variable {ph : Int32} {ch cp sh sp ha : Nat → Int32} {lv : Nat → Bool} {tx hd : Nat → Nat → Int32} {ts : Nat → Nat} {hs nx rr : Nat → Int32} {bg en : Nat → Bool} {rows : Nat → Int32} {tot : Int32} {a : Nat} {ck : Int32} {us rh rp9 rs rq hr bgn nxR enR sz txR hl hb : Nat → Int32} {ra at9 : Nat → Int32} {al : Int32} {N : Nat}
theorem u_upI {α : Type} (f : Nat → α) (k : Nat) (v : α) (j : Nat) : va_up f k v j = if j = k then v else f j := rfl
theorem u_upS {α : Type} (f : Nat → α) (k : Nat) (v : α) : va_up f k v k = v := if_pos rfl
theorem u_upN {α : Type} (f : Nat → α) {k j : Nat} (v : α) (h : j ≠ k) : va_up f k v j = f j := if_neg h
/-- a flow is made -/
theorem u_beg (h : uRel ph ch cp sh sp ha lv tx hd ts hs nx rr bg en rows tot a ck us rh rp9 rs rq hr bgn nxR enR sz txR hl hb ra at9 al N) {k : Nat} (hk : k < 4) (x1 x2 x3 x4 : Int32) : uRel ph (va_up ch k x1) (va_up cp k x2) (va_up sh k x3) (va_up sp k x4) ha (va_up lv k true) tx (fun t => if t / 2 = k then sFill 32 0 (hd t) else hd t) (up2 ts k 0) (up2 hs k 0) (up2 nx k 0) (up2 rr k 0) (up2 bg k false) (up2 en k false) rows tot a ck (upd us k 1) (upd rh k x1) (upd rp9 k x2) (upd rs k x3) (upd rq k x4) hr (mClr mU0 2 (2 * k) bgn) (mClr mU0 2 (2 * k) nxR) (mClr mU0 2 (2 * k) enR) (mClr mU0 2 (2 * k) sz) txR (mClr mZ32 2 (2 * k) hl) hb (mClr mZ6 2 (2 * k) ra) at9 al N := by
  obtain ⟨h1, h2, h3, h4, h5, h6, h7⟩ := h
  refine ⟨h1, ?_, ?_, ?_, h5, h6, h7⟩
  · intro j hj
    obtain ⟨a1, a2, a3, a4, a5, a6, a7⟩ := h2 j hj
    by_cases e : j = k
    · subst e
      rw [u_upS, u_upS, u_upS, u_upS, u_upS, pk_us, pk_us, pk_us, pk_us, pk_us]
      refine ⟨rfl, rfl, rfl, rfl, a5, ⟨fun _ => by decide, fun _ => rfl⟩, fun _ z => ?_⟩
      have : up2 en j false (2 * j) = false := if_pos (by omega)
      rw [this] at z
      exact absurd z.1 (by decide)
    · rw [u_upN _ _ e, u_upN _ _ e, u_upN _ _ e, u_upN _ _ e, u_upN _ _ e, pk_un e, pk_un e, pk_un e, pk_un e, pk_un e]
      have e1 : up2 en k false (2 * j) = en (2 * j) := if_neg (by omega)
      have e2 : up2 en k false (2 * j + 1) = en (2 * j + 1) := if_neg (by omega)
      rw [e1, e2]
      exact ⟨a1, a2, a3, a4, a5, a6, a7⟩
  · intro t ht
    by_cases e : t / 2 = k
    · have q : ∀ {α : Type} (g : Nat → α) (v : α), up2 g k v t = v := fun g v => if_pos e
      show uStm t (tx t) (if t / 2 = k then sFill 32 0 (hd t) else hd t) _ _ _ _ _ _ _ _ _ _ _ _ _ _
      rw [if_pos e, q, q, q, q, q, q]
      refine u_stm0 _ _ (fun p hp => by rw [u_fill, if_pos (by omega)]) ?_ ?_ ?_ ?_ ?_ ?_
      · rw [u_clrU, if_pos e]
      · rw [u_clrU, if_pos e]
      · rw [u_clrU, if_pos e]
      · rw [u_clrU, if_pos e]
      · intro i hi; rw [u_clr32, if_pos (by omega)]
      · intro r hr; rw [u_clr6, if_pos (by omega)]
    · have q : ∀ {α : Type} (g : Nat → α) (v : α), up2 g k v t = g t := fun g v => if_neg e
      show uStm t (tx t) (if t / 2 = k then sFill 32 0 (hd t) else hd t) _ _ _ _ _ _ _ _ _ _ _ _ _ _
      rw [if_neg e, q, q, q, q, q, q]
      refine u_stmE (h3 t ht) ?_ ?_ ?_ ?_ (fun _ _ _ => rfl) ?_ ?_
      · rw [u_clrU, if_neg e]
      · rw [u_clrU, if_neg e]
      · rw [u_clrU, if_neg e]
      · rw [u_clrU, if_neg e]
      · intro j a b; rw [u_clr32, if_neg (by omega)]; exact ⟨rfl, rfl⟩
      · intro j a b; rw [u_clr6, if_neg (by omega)]
  · intro t
    unfold up2
    split
    · omega
    · exact h4 t
/-- a packet that ends its flow at once -/
theorem u_rst (h : uRel ph ch cp sh sp ha lv tx hd ts hs nx rr bg en rows tot a ck us rh rp9 rs rq hr bgn nxR enR sz txR hl hb ra at9 al N) {k : Nat} (hk : k < 4) : uRel (ph + 1) ch cp sh sp (va_up ha k (ph + 1)) (va_up lv k false) tx hd ts hs nx rr bg en rows tot a (ck + 1) (upd us k 0) rh rp9 rs rq (upd hr k (ck + 1)) bgn nxR enR sz txR hl hb ra at9 al N := by
  obtain ⟨h1, h2, h3, h4, h5, h6, h7⟩ := h
  refine ⟨by rw [h1], ?_, h3, h4, h5, h6, h7⟩
  intro j hj
  obtain ⟨a1, a2, a3, a4, a5, a6, a7⟩ := h2 j hj
  by_cases e : j = k
  · subst e
    rw [u_upS, u_upS, pk_us, pk_us, h1]
    exact ⟨a1, a2, a3, a4, rfl, ⟨fun z => absurd z (by decide), fun z => absurd rfl z⟩, fun z => absurd z (by decide)⟩
  · rw [u_upN _ _ e, u_upN _ _ e, pk_un e, pk_un e]
    exact ⟨a1, a2, a3, a4, a5, a6, a7⟩
end WTC

/-- the rules of both -/
def uRul (rc : Nat) (wy pt : Nat → Int32) (os : Nat → List oT) (R : mR) : Prop := rc ≤ 6 ∧ ∀ r, r < rc → wy r = R.rw9 r ∧ pt r = R.rp r ∧ (os r).length = R.oN r ∧ R.oN r ≤ 3 ∧ R.op r = nI (R.oN r) ∧ uRls (uOp1 R.ct R.mk' R.lst R.spn R.cs R.cN r) (os r) 0
theorem u_uG {rc : Nat} {wy pt : Nat → Int32} {os : Nat → List oT} {R : mR} (h : uRul rc wy pt os R) {t : Nat} {wa spt : Int32} (hwa : wa = nI (t % 2)) (hsp : spt = R.sp (t / 2)) : uG R t rc (fun tx ts => gR wy pt os wa spt tx ts) := by
  intro tx1 tx sz ts hts htx r hr pl
  obtain ⟨a1, a2, a3, a4, a5, a6⟩ := h.2 r hr
  show (decide ((wy r = 2 ∨ wy r = wa) ∧ (pt r = 0 ∨ pt r = spt)) && vHold tx1 ts (os r)) = (decide ((R.rw9 r = 2 ∨ R.rw9 r = nI (t % 2)) ∧ (R.rp r = 0 ∨ R.rp r = R.sp (t / 2))) && _)
  rw [a1, a2, hwa, hsp]
  congr 1
  exact (u_both (rr := r) hts htx (by have := h.1; omega) (os r) a3 a4 a6 pl).symm
section WTP
variable {ph : Int32} {ch cp sh sp ha : Nat → Int32} {lv : Nat → Bool} {tx hd : Nat → Nat → Int32} {ts : Nat → Nat} {hs nx rr : Nat → Int32} {bg en : Nat → Bool} {rows : Nat → Int32} {tot : Int32} {a : Nat} {ck : Int32} {us rh rp9 rs rq hr bgn nxR enR sz txR hl hb : Nat → Int32} {S0 : mS} {N : Nat}
theorem u_pkt (h : uRel ph ch cp sh sp ha lv tx hd ts hs nx rr bg en rows tot a ck us rh rp9 rs rq hr bgn nxR enR sz txR hl hb S0.ra S0.at' S0.al N) {j y : Nat} (hj : j < 4) (hy : y < 2) (hlv : lv j = true) {t : Nat} (ht : t = 2 * j + y) {f : Nat → Int32} (hf : uByt f) {n : Nat} (hn : n ≤ 100) {da d : Nat} (hd9 : da + d ≤ n) (fn fg : Int32) (ls : Bool) {rc : Nat} {wy pt : Nat → Int32} {os : Nat → List oT} {R : mR} (hR : uRul rc wy pt os R) (hRc : R.cp = rp9) (hRs : R.sp = rq) (h0 : S0.c = 0)
    {S : rcT} (eS : S = rcV ls rc fn (nI da) d n f (cp j) (sp j) wy pt os (nI y) (tx t) (hd t) (ts t) (hs t) (nx t) (bg t) (rr t, rows, tot, a))
    {nx1 : Int32} (e1 : nx1 = if bgn t = 0 then fn else nxR t) {q : gT} (eq : q = mGr R t rc 32 (ts t, sz, txR, upd nxR t nx1, (mHd f ls t nx1 fn da d da hl hb).1, (mHd f ls t nx1 fn da d da hl hb).2, S0))
    {en' : Nat → Int32} (e2 : en' = if ¬ fg &&& 1 = 0 ∧ q.nx t = fn + nI (da + d) - nI da then upd enR t 1 else enR) :
    S.2.2.2.2.2.2.2.1 - tot = q.S.c ∧ ∃ N2, uRel (ph + 1) ch cp sh sp (va_up ha j (ph + 1)) (va_up lv j (if (¬ fg &&& 1 = 0 ∧ S.2.2.2.2.1 = fn + nI d) ∧ en (2 * j + 1 - y) = true then false else lv j)) (va_up tx t S.1) (va_up hd t S.2.1) (va_up ts t S.2.2.1) (va_up hs t S.2.2.2.1) (va_up nx t S.2.2.2.2.1) (va_up rr t S.2.2.2.2.2.1) (va_up bg t true) (va_up en t (if ¬ fg &&& 1 = 0 ∧ S.2.2.2.2.1 = fn + nI d then true else en t)) S.2.2.2.2.2.2.1 S.2.2.2.2.2.2.2.1 S.2.2.2.2.2.2.2.2
      (ck + 1) (upd us j (if ¬ en' (2 * j) = 0 ∧ ¬ en' (2 * j + 1) = 0 then 0 else 1)) rh rp9 rs rq (upd hr j (ck + 1)) (upd bgn t 1) q.nx en' q.sz q.tx q.hl q.hb q.S.ra q.S.at' q.S.al N2 := by
  obtain ⟨g1, g2, g3, g4, g5, g6, g7⟩ := h
  have ht8 : t < 8 := by omega
  have htm : t % 2 = y := by omega
  have htd : t / 2 = j := by omega
  obtain ⟨s1, s2, s3, s4, s5, s6, s7, s8, s9, s10⟩ := g3 t ht8
  have eb : (if bg t = true then nx t else fn) = nx1 := by
    rw [e1]
    by_cases z : bg t = true
    · rw [if_pos z, if_neg (s7.mp z), s4]
    · rw [if_neg z, if_pos (Classical.byContradiction (fun w => z (s7.mpr w)))]
  have hw : uWin t (hd t) nx1 hl hb := by
    rw [← eb]
    by_cases z : bg t = true
    · rw [if_pos z]; exact s5
    · rw [if_neg z]; exact u_winMove s5 (s10 z) _
  have H := u_hold hf (ls := ls) (da := da) ht8 hn (st := fn) d 0 (hd t) hl hb (by omega) hw
  rw [Nat.add_zero] at H
  obtain ⟨H1, H2, H3⟩ := H
  obtain ⟨F1, F2, F3, F4, F5, F6, F7⟩ := g2 j hj
  have eS2 : S = rcL (fun tx ts => gR wy pt os (nI y) (sp j) tx ts) (cp j) (nI y) rc 32 (tx t, (sHl nx1 fn (nI da) n f ls d 0 (hd t) (nI (uN hl t 32 0))).1, ts t, (sHl nx1 fn (nI da) n f ls d 0 (hd t) (nI (uN hl t 32 0))).2, nx1, (rr t, rows, tot, a)) := by
    rw [eS, s6]
    show rcL _ _ _ _ 32 (_, (sHl (if bg t = true then nx t else fn) _ _ _ _ _ _ _ _ _).1, _, (sHl (if bg t = true then nx t else fn) _ _ _ _ _ _ _ _ _).2, (if bg t = true then nx t else fn), _) = _
    rw [eb]
  have start : uGrw t tot (tx t, (sHl nx1 fn (nI da) n f ls d 0 (hd t) (nI (uN hl t 32 0))).1, ts t, (sHl nx1 fn (nI da) n f ls d 0 (hd t) (nI (uN hl t 32 0))).2, nx1, (rr t, rows, tot, a)) (ts t, sz, txR, upd nxR t nx1, (mHd f ls t nx1 fn da d da hl hb).1, (mHd f ls t nx1 fn da d da hl hb).2, S0) N := by
    refine ⟨s1, rfl, s2, s3, pk_us, H1, H2, ⟨s9, g5, g6, g7, ?_⟩⟩
    show tot = tot + S0.c
    rw [h0, Int32.add_zero]
  obtain ⟨N2, G1, G2⟩ := u_grow (R := R) (cpt := cp j) (wa := nI y) hR.1 (by rw [hRc, htd]; exact F2) (by rw [htm]) (u_uG hR (t := t) (wa := nI y) (spt := sp j) (by rw [htm]) (by rw [hRs, htd]; exact F4)) 32 _ _ N start
  rw [← eS2, ← eq] at G1
  rw [← eq] at G2
  obtain ⟨p1, p2, p3, p4, p5, p6, p7, p8⟩ := G1
  obtain ⟨r1, r2, r3, r4, r5⟩ := p8
  have eF : (¬ fg &&& 1 = 0 ∧ S.2.2.2.2.1 = fn + nI d) ↔ (¬ fg &&& 1 = 0 ∧ q.nx t = fn + nI (da + d) - nI da) := by
    rw [p5, show fn + nI (da + d) - nI da = fn + nI d from by rw [← nI_add, Int32.add_comm (nI da), ← Int32.add_assoc, Int32.add_sub_cancel]]
  refine ⟨by rw [r5, Int32.add_comm, Int32.add_sub_cancel], N2, by rw [g1], ?_, ?_, ?_, r2, r3, r4⟩
  · -- the flows
    intro i hi
    by_cases e : i = j
    · subst e
      rw [u_upS, u_upS, pk_us, pk_us, g1]
      have so := g3 (2 * i + 1 - y) (by omega)
      have o8 : en (2 * i + 1 - y) = true ↔ ¬ enR (2 * i + 1 - y) = 0 := so.2.2.2.2.2.2.2.1
      by_cases c : ¬ fg &&& 1 = 0 ∧ q.nx t = fn + nI (da + d) - nI da
      · rw [if_pos c] at e2
        rw [if_pos (eF.mpr c)]
        have eo : en' (2 * i + 1 - y) = enR (2 * i + 1 - y) := by rw [e2, pk_un (by omega)]
        have et : en' t = 1 := by rw [e2, pk_us]
        have both : (¬ en' (2 * i) = 0 ∧ ¬ en' (2 * i + 1) = 0) ↔ en (2 * i + 1 - y) = true := by
          rw [o8, ← eo]
          have : y = 0 ∨ y = 1 := by omega
          rcases this with z | z
          · have t0 : t = 2 * i := by omega
            rw [show 2 * i + 1 - y = 2 * i + 1 by omega, ← t0, et]
            exact ⟨fun w => w.2, fun w => ⟨by decide, w⟩⟩
          · have t0 : t = 2 * i + 1 := by omega
            rw [show 2 * i + 1 - y = 2 * i by omega, ← t0, et]
            exact ⟨fun w => w.1, fun w => ⟨w, by decide⟩⟩
        have vs : va_up en t true t = true := u_upS _ _ _
        have vo : va_up en t true (2 * i + 1 - y) = en (2 * i + 1 - y) := u_upN _ _ (by omega)
        have ben : (va_up en t true (2 * i) = true ∧ va_up en t true (2 * i + 1) = true) → en (2 * i + 1 - y) = true := by
          rintro ⟨w1, w2⟩
          have : y = 0 ∨ y = 1 := by omega
          rcases this with z | z
          · rw [← vo, show 2 * i + 1 - y = 2 * i + 1 by omega]; exact w2
          · rw [← vo, show 2 * i + 1 - y = 2 * i by omega]; exact w1
        by_cases o : en (2 * i + 1 - y) = true
        · rw [if_pos ⟨eF.mpr c, o⟩, if_pos (both.mpr o)]
          exact ⟨F1, F2, F3, F4, rfl, ⟨fun z => absurd z (by decide), fun z => absurd rfl z⟩, fun z => absurd z (by decide)⟩
        · rw [if_neg (fun z => o z.2), if_neg (fun z => o (both.mp z))]
          exact ⟨F1, F2, F3, F4, rfl, ⟨fun _ => by decide, fun _ => hlv⟩, fun _ z => o (ben z)⟩
      · rw [if_neg c] at e2
        rw [if_neg (fun z => c (eF.mp z.1)), if_neg (fun z => c (eF.mp z))]
        have nb := F7 hlv
        have v1 : ∀ x, va_up en t (en t) x = en x := by
          intro x
          by_cases z : x = t
          · rw [z, u_upS]
          · rw [u_upN _ _ z]
        rw [v1, v1]
        have k1 := (g3 (2 * i) (by omega)).2.2.2.2.2.2.2.1
        have k2 := (g3 (2 * i + 1) (by omega)).2.2.2.2.2.2.2.1
        rw [e2, if_neg (fun z => nb ⟨k1.mpr z.1, k2.mpr z.2⟩)]
        exact ⟨F1, F2, F3, F4, rfl, ⟨fun _ => by decide, fun _ => hlv⟩, fun _ => nb⟩
    · obtain ⟨a1, a2, a3, a4, a5, a6, a7⟩ := g2 i hi
      rw [u_upN _ _ e, u_upN _ _ e, pk_un e, pk_un e, u_upN _ _ (by omega), u_upN _ _ (by omega)]
      exact ⟨a1, a2, a3, a4, a5, a6, a7⟩
  · -- the streams
    intro i hi
    by_cases e : i = t
    · subst e
      rw [u_upS, u_upS, u_upS, u_upS, u_upS, u_upS, u_upS, u_upS]
      refine ⟨p1, p3, p4, p5, p6, p7, ⟨fun _ => by rw [pk_us]; decide, fun _ => rfl⟩, ?_, r1, fun z => absurd rfl z⟩
      by_cases c : ¬ fg &&& 1 = 0 ∧ q.nx i = fn + nI (da + d) - nI da
      · rw [if_pos (eF.mpr c), e2, if_pos c, pk_us]; exact ⟨fun _ => by decide, fun _ => rfl⟩
      · rw [if_neg (fun z => c (eF.mp z)), e2, if_neg c]; exact s8
    · rw [u_upN _ _ e, u_upN _ _ e, u_upN _ _ e, u_upN _ _ e, u_upN _ _ e, u_upN _ _ e, u_upN _ _ e, u_upN _ _ e]
      refine u_stmE (g3 i hi) (pk_un e) ?_ ?_ (G2.1 i e).1 (fun x w1 w2 => G2.2.1 x (by omega)) (fun x w1 w2 => ?_) (fun x w1 w2 => G2.2.2.2 x (by omega))
      · rw [(G2.1 i e).2]; exact pk_un e
      · rw [e2]
        split
        · exact pk_un e
        · rfl
      · have b1 := G2.2.2.1 x (by omega)
        have b2 := H3 x (by omega)
        exact ⟨b1.1.trans b2.1, b1.2.trans b2.2⟩
  · intro i
    by_cases e : i = t
    · rw [e, u_upS]; exact p1
    · rw [u_upN _ _ e]; exact g4 i
end WTP
