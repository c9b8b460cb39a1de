/-! Pure (by program: wip/whole/pure/lay.py) -/
/-! The wire: bytes; sums laid -/
def uByt (f : Nat → Int32) : Prop := ∀ j, f j = nI (f j).toNatClampNeg ∧ (f j).toNatClampNeg < 256
theorem u_bytU {f : Nat → Int32} (h : uByt f) (k : Nat) {v : Int32} {x : Nat} (hv : v = nI x) (hx : x < 256) : uByt (upd f k v) := by
  intro j
  by_cases e : j = k
  · subst e; rw [pk_us, hv, nI_clamp (by omega)]; exact ⟨rfl, hx⟩
  · rw [pk_un e]; exact h j
theorem u_wSet {f : Nat → Int32} {n k y : Nat} (hn : n ≤ 100) (hk : k + 1 < n) (hy : y ≤ 65535) (a x : Int32) (ha : a = nI k) (hx : x = nI y) : wSet n f a x = upd (upd f k (x >>> ((8 : Int32) &&& 31))) (k + 1) (x &&& 255) ∧ x >>> ((8 : Int32) &&& 31) = nI (y / 256) ∧ x &&& 255 = nI (y % 256) := by
  subst ha hx
  have e1 : nI y >>> ((8 : Int32) &&& 31) = nI (y / 256) := pk_shrN (by omega) _ 8 (by decide)
  have e2 : nI y &&& 255 = nI (y % 256) := pk_andN (by omega) (m := 255) 8 (by decide)
  refine ⟨?_, e1, e2⟩
  unfold wSet
  rw [nI_1, if_pos ⟨⟨nI_pos' (by omega), nI_lt (by omega) (by omega)⟩, nI_pos' (by omega), nI_lt hk (by omega)⟩, nI_clamp (by omega), nI_clamp (by omega), e1]
  rw [pk_andN (n := y / 256) (by omega) (m := 255) 8 (by decide), show y / 256 % 2 ^ 8 = y / 256 by omega]
theorem u_close {f : Nat → Int32} (hb : uByt f) {n q L : Nat} (hn : n ≤ 100) (h20 : 20 ≤ n) (hq : wIpN n f = q) (hq3 : 4 * (f 0 - 64) = nI q) (q1 : 20 ≤ q) (q2 : q ≤ 28) (hL : mPair f 2 = nI L) (hqL : q + 20 ≤ L) (hLn : L ≤ n) {f1 f2 f3 f4 : Nat → Int32} (e1 : f1 = upd (upd f 10 0) 11 0) (e2 : f2 = upd (upd f1 10 ((65535 - mHs f1 q) >>> ((8 : Int32) &&& 31))) 11 ((65535 - mHs f1 q) &&& 255)) (e3 : f3 = upd (upd f2 (q + 16) 0) (q + 17) 0) (e4 : f4 = upd (upd f3 (q + 16) ((65535 - mPs f3 q L) >>> ((8 : Int32) &&& 31))) (q + 17) ((65535 - mPs f3 q L) &&& 255)) :
    wF3 n f = f3 ∧ wMk n f L = f4 ∧ uByt f4 ∧ 4 * (f1 0 - 64) = nI q ∧ 4 * (f2 0 - 64) = nI q ∧ 4 * (f3 0 - 64) = nI q ∧ mPair f3 2 = nI L ∧ wPair n f3 2 = nI L ∧ wIpN n f3 = q := by
  have z1 : f1 0 = f 0 := by rw [e1, pk_un (by omega), pk_un (by omega)]
  have z2 : f2 0 = f 0 := by rw [e2, pk_un (by omega), pk_un (by omega), z1]
  have z3 : f3 0 = f 0 := by rw [e3, pk_un (by omega), pk_un (by omega), z2]
  have hw : ∀ F : Nat → Int32, F 0 = f 0 → wIpN n F = q := by
    intro F e
    rw [← hq]
    unfold wIpN
    rw [show wA n F 0 = F 0 from u_wA (k := 0) hn (by omega), show wA n f 0 = f 0 from u_wA (k := 0) hn (by omega), e]
  have b1 : uByt f1 := by rw [e1]; exact u_bytU (u_bytU hb 10 (x := 0) rfl (by omega)) 11 (x := 0) rfl (by omega)
  have sum1 := u_hs (f := f1) (fun j => (b1 j).1) (fun j => (b1 j).2) (n := n) (q := q) hn (by omega)
  obtain ⟨s1, x1, hx1, ex1⟩ := sum1
  have d1 : (65535 : Int32) - mHs f1 q = nI (65535 - x1) := by rw [ex1, show (65535 : Int32) = nI 65535 from rfl, pk_sub hx1]
  have w1 : wSet n f 10 0 = f1 := by
    have := (u_wSet (f := f) (n := n) (k := 10) (y := 0) hn (by omega) (by omega) 10 0 rfl rfl)
    rw [this.1, this.2.1, this.2.2, e1]; rfl
  obtain ⟨t1, t2, t3⟩ := u_wSet (f := f1) (n := n) (k := 10) (y := 65535 - x1) hn (by omega) (by omega) 10 (65535 - mHs f1 q) rfl d1
  have w2 : wF2 n f = f2 := by
    unfold wF2
    rw [w1]
    have : wIs n f1 = mHs f1 q := by unfold wIs; rw [hw f1 z1]; exact s1
    rw [this, t1, e2]
  have b2 : uByt f2 := by rw [e2]; exact u_bytU (u_bytU b1 10 t2 (by omega)) 11 t3 (by omega)
  have k16 : nI (wIpN n f) + 16 = nI (q + 16) := by rw [hq, show (16 : Int32) = nI 16 from rfl, nI_add]
  have w3 : wF3 n f = f3 := by
    unfold wF3
    rw [w2, k16]
    have := (u_wSet (f := f2) (n := n) (k := q + 16) (y := 0) hn (by omega) (by omega) _ 0 rfl rfl)
    rw [this.1, this.2.1, this.2.2, e3]; rfl
  have b3 : uByt f3 := by rw [e3]; exact u_bytU (u_bytU b2 (q + 16) (x := 0) rfl (by omega)) (q + 17) (x := 0) rfl (by omega)
  have sum3 := u_ps (f := f3) (fun j => (b3 j).1) (fun j => (b3 j).2) (n := n) (q := q) (L := L) hn (by omega) hLn h20
  obtain ⟨s3, x3, hx3, ex3⟩ := sum3
  have d3 : (65535 : Int32) - mPs f3 q L = nI (65535 - x3) := by rw [ex3, show (65535 : Int32) = nI 65535 from rfl, pk_sub hx3]
  obtain ⟨t4, t5, t6⟩ := u_wSet (f := f3) (n := n) (k := q + 16) (y := 65535 - x3) hn (by omega) (by omega) _ (65535 - mPs f3 q L) rfl d3
  have w4 : wMk n f L = f4 := by
    unfold wMk
    rw [w3, k16]
    have : wTs n f3 L = mPs f3 q L := by unfold wTs; rw [hw f3 z3]; exact s3
    rw [this, t4, e4]
  have b4 : uByt f4 := by rw [e4]; exact u_bytU (u_bytU b3 (q + 16) t5 (by omega)) (q + 17) t6 (by omega)
  have p3 : mPair f3 2 = nI L := by
    rw [← hL]
    show f3 2 <<< _ ||| f3 3 = f 2 <<< _ ||| f 3
    have a2 : f3 2 = f 2 := by rw [e3, pk_un (by omega), pk_un (by omega), e2, pk_un (by omega), pk_un (by omega), e1, pk_un (by omega), pk_un (by omega)]
    have a3 : f3 3 = f 3 := by rw [e3, pk_un (by omega), pk_un (by omega), e2, pk_un (by omega), pk_un (by omega), e1, pk_un (by omega), pk_un (by omega)]
    rw [a2, a3]
  exact ⟨w3, w4, b4, by rw [z1]; exact hq3, by rw [z2]; exact hq3, by rw [z3]; exact hq3, p3, by rw [u_wPair hn (k := 2) (by omega) 2 rfl]; exact p3, hw f3 z3⟩
/-! bytes of numbers -/
theorem u_sh64 {r : Nat} (hr : r < 8) : (8 * nI r).toInt64.toUInt64 &&& Int64.toUInt64 63 = UInt64.ofNat (8 * r) ∧ ((8 * nI r).toInt64 &&& 63) = Int64.ofNat (8 * r) := by
  have : r = 0 ∨ r = 1 ∨ r = 2 ∨ r = 3 ∨ r = 4 ∨ r = 5 ∨ r = 6 ∨ r = 7 := by omega
  rcases this with h | h | h | h | h | h | h | h <;> subst h <;> decide
theorem u_lsb (x : BitVec 32) (y : BitVec 32) (h : ∀ i, i < 8 → x.getLsbD i = y.getLsbD i) : x &&& 255#32 = y &&& 255#32 := by
  apply BitVec.eq_of_getLsbD_eq
  intro i hi
  rw [BitVec.getLsbD_and, BitVec.getLsbD_and]
  by_cases q : i < 8
  · rw [h i q]
  · have : (255#32).getLsbD i = false := by
      have : ∀ i : Fin 32, ¬ i.val < 8 → (255#32).getLsbD i.val = false := by decide
      exact this ⟨i, hi⟩ q
    rw [this, Bool.and_false, Bool.and_false]

theorem u_wBbit (v : Int64) {r : Nat} (hr : r < 8) (i : Nat) : (wB v (nI r)).toBitVec.getLsbD i = (decide (i < 8) && v.toBitVec.getLsbD (8 * r + i)) := by
  unfold wB
  rw [(u_sh64 hr).1, Int32.toBitVec_and, BitVec.getLsbD_and]
  have e255 : ∀ i, (255 : Int32).toBitVec.getLsbD i = decide (i < 8) := by
    intro i
    by_cases hi : i < 32
    · have : ∀ i : Fin 32, (255 : Int32).toBitVec.getLsbD i.val = decide (i.val < 8) := by decide
      exact this ⟨i, hi⟩
    · rw [BitVec.getLsbD_of_ge _ _ (by omega), decide_eq_false (by omega)]
  rw [e255]
  by_cases h : i < 8
  · rw [decide_eq_true h, Bool.and_true, Bool.true_and]
    simp only [Int64.toBitVec_toInt32, UInt64.toBitVec_toInt64, UInt64.toBitVec_shiftRight]
    have e : (UInt64.ofNat (8 * r)).toBitVec % 64 = BitVec.ofNat 64 (8 * r) := by
      have : r = 0 ∨ r = 1 ∨ r = 2 ∨ r = 3 ∨ r = 4 ∨ r = 5 ∨ r = 6 ∨ r = 7 := by omega
      rcases this with h | h | h | h | h | h | h | h <;> subst h <;> decide
    rw [e]
    rw [BitVec.getLsbD_signExtend]
    simp [h, show i < 32 by omega, show i < 64 by omega]
    congr 2
    omega
  · rw [decide_eq_false h, Bool.and_false, Bool.false_and]
theorem u_mLbit (v : Int64) {r : Nat} (hr : r < 8) (i : Nat) : (mL v (nI r)).toBitVec.getLsbD i = (decide (i < 8) && v.toBitVec.getLsbD (8 * r + i)) := by
  unfold mL
  rw [(u_sh64 hr).2, Int32.toBitVec_and, BitVec.getLsbD_and]
  have e255 : ∀ i, (255 : Int32).toBitVec.getLsbD i = decide (i < 8) := by
    intro i
    by_cases hi : i < 32
    · have : ∀ i : Fin 32, (255 : Int32).toBitVec.getLsbD i.val = decide (i.val < 8) := by decide
      exact this ⟨i, hi⟩
    · rw [BitVec.getLsbD_of_ge _ _ (by omega), decide_eq_false (by omega)]
  rw [e255]
  by_cases h : i < 8
  · rw [decide_eq_true h, Bool.and_true, Bool.true_and]
    simp only [Int64.toBitVec_toInt32, Int64.toBitVec_shiftRight]
    have e : (Int64.ofNat (8 * r)).toBitVec.smod 64 = BitVec.ofNat 64 (8 * r) := by
      have : r = 0 ∨ r = 1 ∨ r = 2 ∨ r = 3 ∨ r = 4 ∨ r = 5 ∨ r = 6 ∨ r = 7 := by omega
      rcases this with h | h | h | h | h | h | h | h <;> subst h <;> decide
    rw [e]
    rw [BitVec.getLsbD_signExtend]
    simp [h, show i < 32 by omega, show i < 64 by omega, BitVec.getLsbD_sshiftRight, Nat.mod_eq_of_lt (show 8 * r < 18446744073709551616 by omega), show 8 * r + i < 64 by omega]
    rw [BitVec.getElem_sshiftRight]
    simp [show 8 * r + i < 64 by omega]
  · rw [decide_eq_false h, Bool.and_false, Bool.false_and]
theorem u_mBbit (v : Int32) {r : Nat} (hr : r < 4) (i : Nat) : (mB v (nI r)).toBitVec.getLsbD i = (decide (i < 8) && v.toBitVec.getLsbD (8 * r + i)) := by
  unfold mB
  have es : (8 * nI r) &&& 31 = Int32.ofNat (8 * r) := by
    have : r = 0 ∨ r = 1 ∨ r = 2 ∨ r = 3 := by omega
    rcases this with h | h | h | h <;> subst h <;> decide
  rw [es, Int32.toBitVec_and, BitVec.getLsbD_and]
  have e255 : ∀ i, (255 : Int32).toBitVec.getLsbD i = decide (i < 8) := by
    intro i
    by_cases hi : i < 32
    · have : ∀ i : Fin 32, (255 : Int32).toBitVec.getLsbD i.val = decide (i.val < 8) := by decide
      exact this ⟨i, hi⟩
    · rw [BitVec.getLsbD_of_ge _ _ (by omega), decide_eq_false (by omega)]
  rw [e255]
  by_cases h : i < 8
  · rw [decide_eq_true h, Bool.and_true, Bool.true_and]
    simp only [Int32.toBitVec_shiftRight]
    have e : (Int32.ofNat (8 * r)).toBitVec.smod 32 = BitVec.ofNat 32 (8 * r) := by
      have : r = 0 ∨ r = 1 ∨ r = 2 ∨ r = 3 := by omega
      rcases this with h | h | h | h <;> subst h <;> decide
    rw [e]
    simp [h, show i < 32 by omega, BitVec.getLsbD_sshiftRight, Nat.mod_eq_of_lt (show 8 * r < 4294967296 by omega), show 8 * r + i < 32 by omega]
    rw [BitVec.getElem_sshiftRight]
    simp [show 8 * r + i < 32 by omega]
  · rw [decide_eq_false h, Bool.and_false, Bool.false_and]
theorem u_bitsEq {x y : Int32} (h : ∀ i, x.toBitVec.getLsbD i = y.toBitVec.getLsbD i) : x = y := Int32.toBitVec_inj.mp (BitVec.eq_of_getLsbD_eq (fun i _ => h i))
theorem u_wB {v : Int64} {r : Nat} (hr : r < 8) : wB v (nI r) = mL v (nI r) := u_bitsEq (fun i => by rw [u_wBbit v hr, u_mLbit v hr])
theorem u_wBI {v : Int32} {r : Nat} (hr : r < 4) : wB v.toInt64 (nI r) = mB v (nI r) := u_bitsEq (fun i => by
  rw [u_wBbit _ (by omega), u_mBbit v hr]
  by_cases h : i < 8
  · rw [Int32.toBitVec_toInt64, BitVec.getLsbD_signExtend, decide_eq_true (show 8 * r + i < 64 by omega), if_pos (show 8 * r + i < 32 by omega), Bool.true_and]
  · rw [decide_eq_false h, Bool.false_and, Bool.false_and])
theorem u_255 (x : Int32) : ∃ k, k < 256 ∧ x &&& 255 = nI k := pk_andE x (m := 255) 8 (by decide)
theorem u_app {v : Int64} : ∀ (r n : Nat) (f : Nat → Int32), r ≤ 8 → wApp r n f v = mPut r n f v := by
  intro r
  induction r with
  | zero => intro n f _; rfl
  | succ r ih =>
    intro n f hr
    unfold wApp mPut
    rw [ih (n + 1) _ (by omega), u_wB (by omega)]
theorem u_putB {v : Int64} : ∀ (r n : Nat) (f : Nat → Int32), uByt f → uByt (mPut r n f v) := by
  intro r
  induction r with
  | zero => intro n f h; exact h
  | succ r ih =>
    intro n f h
    unfold mPut
    obtain ⟨k, hk, e⟩ := u_255 (v >>> ((8 * nI r).toInt64 &&& 63)).toInt32
    exact ih (n + 1) _ (u_bytU h n e hk)
theorem u_appB {v : Int32} : ∀ (r n : Nat) (f : Nat → Int32), uByt f → uByt (mApp r n f v) := by
  intro r
  induction r with
  | zero => intro n f h; exact h
  | succ r ih =>
    intro n f h
    unfold mApp
    obtain ⟨k, hk, e⟩ := u_255 (v >>> ((8 * nI r) &&& 31))
    exact ih (n + 1) _ (u_bytU h n e hk)
theorem u_altB {f : Nat → Int32} (h : uByt f) (k : Nat) (b : Int32) : uByt (upd f k (f k ^^^ (b &&& 255))) := by
  obtain ⟨x, hx, e⟩ := u_255 b
  have hk := h k
  have e2 : f k ^^^ (b &&& 255) = nI ((f k).toNatClampNeg ^^^ x) := by
    apply Int32.toBitVec_inj.mp
    apply BitVec.eq_of_toNat_eq
    have h9 : (f k).toNatClampNeg ^^^ x < 2 ^ 8 := Nat.xor_lt_two_pow hk.2 hx
    rw [e, hk.1, Int32.toBitVec_xor, BitVec.toNat_xor, pk_tn (by omega), pk_tn (by omega), nI_clamp (by omega), pk_tn (by omega)]
  exact u_bytU h k e2 (Nat.xor_lt_two_pow (n := 8) hk.2 hx)
/-! what craft lays -/
theorem u_updc {f g : Nat → Int32} {k : Nat} {x y : Int32} (h : f = g) (e : x = y) : upd f k x = upd g k y := by rw [h, e]
theorem u_small {x : Nat} (hx : x < 256) : ∀ r, r < 4 → mB (nI x) (nI r) = if r = 0 then nI x else 0 := by
  intro r hr
  unfold mB
  have es : (8 * nI r) &&& 31 = nI (8 * r) := by
    have : r = 0 ∨ r = 1 ∨ r = 2 ∨ r = 3 := by omega
    rcases this with h | h | h | h <;> subst h <;> decide
  rw [es]
  have : (nI (8 * r)).toBitVec.smod 32 = BitVec.ofNat 32 (8 * r) := by
    have : r = 0 ∨ r = 1 ∨ r = 2 ∨ r = 3 := by omega
    rcases this with h | h | h | h <;> subst h <;> decide
  rw [pk_shrN (n := x) (by omega) (nI (8 * r)) (8 * r) (by rw [this, BitVec.toNat_ofNat]; omega), pk_andN (Nat.lt_of_le_of_lt (Nat.div_le_self _ _) (by omega)) (m := 255) 8 (by decide)]
  have : r = 0 ∨ r = 1 ∨ r = 2 ∨ r = 3 := by omega
  rcases this with h | h | h | h <;> subst h
  · rw [if_pos rfl]; congr 1; omega
  · rw [if_neg (by omega), show x / 2 ^ (8 * 1) = 0 by omega]; rfl
  · rw [if_neg (by omega), show x / 2 ^ (8 * 2) = 0 by omega]; rfl
  · rw [if_neg (by omega), show x / 2 ^ (8 * 3) = 0 by omega]; rfl

set_option maxRecDepth 10000 in
theorem u_kIp (y c : Int32) (m : Nat) (hm9 : m ≤ 8) (f : Nat → Int32) : kIp y c (nI m) f = mApp 4 16 (mApp 4 12 (mApp 2 10 (mApp 2 8 (mApp 4 4 (mApp 3 1 (mApp 1 0 f 69) (40 + nI m)) 0) 6) 0) (if y = 0 then 167772161 + c else 167772417)) (if y = 0 then 167772417 else 167772161 + c) := by
  have hm : ∀ r, r < 4 → ¬ r = 0 → mB (40 + nI m) (nI r) = 0 := by
    intro r hr h0
    rw [show (40 : Int32) = nI 40 from rfl, nI_add, u_small (by omega) r hr, if_neg h0]
  have hA : ∀ r, r < 4 → wB (if y = 0 then (167772161 + c).toInt64 else 167772417) (nI r) = mB (if y = 0 then 167772161 + c else 167772417) (nI r) := by
    intro r hr
    rw [← u_wBI hr]
    congr 1
    split <;> rfl
  have hB : ∀ r, r < 4 → wB (if y = 0 then 167772417 else (167772161 + c).toInt64) (nI r) = mB (if y = 0 then 167772417 else 167772161 + c) (nI r) := by
    intro r hr
    rw [← u_wBI hr]
    congr 1
    split <;> rfl
  exact u_updc (u_updc (u_updc (u_updc (u_updc (u_updc (u_updc (u_updc (u_updc (u_updc (u_updc (u_updc (u_updc (u_updc (u_updc (u_updc (u_updc (u_updc (u_updc (u_updc (rfl) (by decide)) ((show wB 17664 (nI 0) = 0 from by decide).trans (hm 2 (by decide) (by decide)).symm)) (u_wBI (r := 1) (by decide))) (u_wBI (r := 0) (by decide))) (by decide)) (by decide)) (by decide)) (by decide)) (by decide)) (by decide)) (by decide)) (by decide)) ((hA 3 (by decide)))) ((hA 2 (by decide)))) ((hA 1 (by decide)))) ((hA 0 (by decide)))) ((hB 3 (by decide)))) ((hB 2 (by decide)))) ((hB 1 (by decide)))) ((hB 0 (by decide)))
set_option maxRecDepth 10000 in
theorem u_kTcp (y c sq fg : Int32) (f : Nat → Int32) : kTcp y c sq fg f = mApp 2 38 (mApp 4 34 (mApp 1 33 (mApp 1 32 (mApp 4 28 (mApp 4 24 (mApp 2 22 (mApp 2 20 f (if y = 0 then 1000 + c else 80)) (if y = 0 then 80 else 1000 + c)) sq) 0) 80) (fg &&& 63)) 0) 0 := by
  have hA : ∀ r, r < 4 → wB (if y = 0 then (1000 + c).toInt64 else 80) (nI r) = mB (if y = 0 then 1000 + c else 80) (nI r) := by
    intro r hr
    rw [← u_wBI hr]
    congr 1
    split <;> rfl
  have hB : ∀ r, r < 4 → wB (if y = 0 then 80 else (1000 + c).toInt64) (nI r) = mB (if y = 0 then 80 else 1000 + c) (nI r) := by
    intro r hr
    rw [← u_wBI hr]
    congr 1
    split <;> rfl
  obtain ⟨k, hk, ek⟩ := pk_andE fg (m := 63) 6 (by decide)
  have eo : (20480 : Int32) ||| (fg &&& 63) = nI (256 * 80 + k) := by rw [ek, ← u_or8 (by omega) (by omega)]; rfl
  have h80 : wB (20480 ||| (fg &&& 63)).toInt64 (nI 1) = mB 80 (nI 0) := by
    rw [u_wBI (by omega), eo]
    show (nI (256 * 80 + k) >>> ((8 * nI 1) &&& 31)) &&& 255 = _
    rw [show (8 * nI 1) &&& 31 = (8 : Int32) &&& 31 from by decide, pk_shrN (by omega) _ 8 (by decide), show (256 * 80 + k) / 2 ^ 8 = 80 by omega]
    decide
  have hfg : wB (20480 ||| (fg &&& 63)).toInt64 (nI 0) = mB (fg &&& 63) (nI 0) := by
    rw [u_wBI (by omega), eo, ek, u_small (x := k) (by omega) 0 (by omega), if_pos rfl]
    show (nI (256 * 80 + k) >>> ((8 * nI 0) &&& 31)) &&& 255 = _
    rw [show (8 * nI 0) &&& 31 = (0 : Int32) from by decide, pk_shrN (by omega) _ 0 (by decide), pk_andN (by omega) (m := 255) 8 (by decide)]
    congr 1
    omega
  exact u_updc (u_updc (u_updc (u_updc (u_updc (u_updc (u_updc (u_updc (u_updc (u_updc (u_updc (u_updc (u_updc (u_updc (u_updc (u_updc (u_updc (u_updc (u_updc (u_updc (rfl) (hA 1 (by decide))) (hA 0 (by decide))) (hB 1 (by decide))) (hB 0 (by decide))) (u_wBI (r := 3) (by decide))) (u_wBI (r := 2) (by decide))) (u_wBI (r := 1) (by decide))) (u_wBI (r := 0) (by decide))) (by decide)) (by decide)) (by decide)) (by decide)) (h80)) (hfg)) (by decide)) (by decide)) (by decide)) (by decide)) (by decide)) (by decide)
/-- craft lays the same bytes -/
theorem u_craft (y c sq fg : Int32) (m : Nat) (hm : m ≤ 8) (v : Int64) (f : Nat → Int32) : kW y c sq fg m v f = mPut m 40 (kM y c sq fg (nI m) f) v := by
  unfold kW
  rw [u_app m 40 _ hm, u_kTcp, u_kIp _ _ _ hm]
  rfl
theorem u_craftB (y c sq fg : Int32) (m : Nat) (v : Int64) (f : Nat → Int32) (h : uByt f) : uByt (mPut m 40 (kM y c sq fg (nI m) f) v) := by
  unfold kM
  exact u_putB m 40 _ (u_appB _ _ _ (u_appB _ _ _ (u_appB _ _ _ (u_appB _ _ _ (u_appB _ _ _ (u_appB _ _ _ (u_appB _ _ _ (u_appB _ _ _ (u_appB _ _ _ (u_appB _ _ _ (u_appB _ _ _ (u_appB _ _ _ (u_appB _ _ _ (u_appB _ _ _ (u_appB _ _ _ h)))))))))))))))
theorem u_appN {v : Int32} : ∀ (r n : Nat) (f : Nat → Int32) (j : Nat), j < n → mApp r n f v j = f j := by
  intro r
  induction r with
  | zero => intro n f j _; rfl
  | succ r ih => intro n f j h; unfold mApp; rw [ih (n + 1) _ j (by omega), pk_un (by omega)]
theorem u_putN {v : Int64} : ∀ (r n : Nat) (f : Nat → Int32) (j : Nat), j < n → mPut r n f v j = f j := by
  intro r
  induction r with
  | zero => intro n f j _; rfl
  | succ r ih => intro n f j h; unfold mPut; rw [ih (n + 1) _ j (by omega), pk_un (by omega)]
/-- its header -/
theorem u_craftH (y c sq fg : Int32) (m : Nat) (hm : m ≤ 8) (v : Int64) (f : Nat → Int32) : (mPut m 40 (kM y c sq fg (nI m) f) v) 0 = 69 ∧ (mPut m 40 (kM y c sq fg (nI m) f) v) 2 = 0 ∧ (mPut m 40 (kM y c sq fg (nI m) f) v) 3 = nI (40 + m) := by
  have e : ∀ j, j < 4 → (mPut m 40 (kM y c sq fg (nI m) f) v) j = mApp 3 1 (mApp 1 0 f 69) (40 + nI m) j := by
    intro j hj
    rw [u_putN _ _ _ _ (by omega)]
    unfold kM
    rw [u_appN _ _ _ _ (by omega), u_appN _ _ _ _ (by omega), u_appN _ _ _ _ (by omega), u_appN _ _ _ _ (by omega), u_appN _ _ _ _ (by omega), u_appN _ _ _ _ (by omega), u_appN _ _ _ _ (by omega), u_appN _ _ _ _ (by omega), u_appN _ _ _ _ (by omega), u_appN _ _ _ _ (by omega), u_appN _ _ _ _ (by omega), u_appN _ _ _ _ (by omega), u_appN _ _ _ _ (by omega)]
  have hm2 : ∀ r, r < 4 → mB (40 + nI m) (nI r) = if r = 0 then nI (40 + m) else 0 := by
    intro r hr
    rw [show (40 : Int32) = nI 40 from rfl, nI_add, u_small (by omega) r hr]
  refine ⟨?_, ?_, ?_⟩
  · rw [e 0 (by omega), u_appN _ _ _ _ (by omega)]
    show upd f 0 (mB 69 (nI 0)) 0 = _
    rw [pk_us]; decide
  · rw [e 2 (by omega)]
    show upd (upd (upd (mApp 1 0 f 69) 1 (mB (40 + nI m) (nI 2))) 2 (mB (40 + nI m) (nI 1))) 3 (mB (40 + nI m) (nI 0)) 2 = _
    rw [pk_un (by omega), pk_us, hm2 1 (by omega), if_neg (by omega)]
  · rw [e 3 (by omega)]
    show upd (upd (upd (mApp 1 0 f 69) 1 (mB (40 + nI m) (nI 2))) 2 (mB (40 + nI m) (nI 1))) 3 (mB (40 + nI m) (nI 0)) 3 = _
    rw [pk_us, hm2 0 (by omega), if_pos rfl]
