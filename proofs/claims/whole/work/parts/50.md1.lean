/-! The reference: the object at 199, the array of field i at 200 + i (by program: wip/whole/src_md1.py); its wire -/
abbrev cMd (th : Int32) (ls : Bool) (n : Nat) (ck : Int32) (ru : Nat) (tr al : Int32) : mj_C := .inr (11, .int th :: .int (if ls then 1 else 0) :: .int (nI n) :: .ref 203 :: .ref 204 :: .ref 205 :: .ref 206 :: .ref 207 :: .ref 208 :: .ref 209 :: .int ck :: .ref 211 :: .ref 212 :: .ref 213 :: .ref 214 :: .ref 215 :: .ref 216 :: .ref 217 :: .ref 218 :: .int (nI ru) :: .ref 220 :: .ref 221 :: .ref 222 :: .ref 223 :: .ref 224 :: .ref 225 :: .ref 226 :: .ref 227 :: .int tr :: .ref 229 :: .ref 230 :: .int al :: .ref 232 :: [])
def mB (v i : Int32) : Int32 := (v >>> ((8 * i) &&& 31)) &&& 255
def mL (v : Int64) (i : Int32) : Int32 := (v >>> ((8 * i).toInt64 &&& 63)).toInt32 &&& 255
def mApp : Nat → Nat → (Nat → Int32) → Int32 → (Nat → Int32)
  | 0, _, f, _ => f
  | r + 1, n, f, v => mApp r (n + 1) (upd f n (mB v (nI r))) v
def mPut : Nat → Nat → (Nat → Int32) → Int64 → (Nat → Int32)
  | 0, _, f, _ => f
  | r + 1, n, f, v => mPut r (n + 1) (upd f n (mL v (nI r))) v
def mTot (f : Nat → Int32) (a : Nat) : Nat → Nat → Int32 → Int32
  | 0, _, s => s
  | r + 1, k, s => mTot f a r (k + 1) (s + (if (nI k - nI a) - (nI k - nI a) / 2 * 2 = 0 then f k <<< ((8 : Int32) &&& 31) else f k))
def mFo (x : Int32) : Int32 := if x ≤ 65535 then x else (x &&& 65535) + (x >>> ((16 : Int32) &&& 31))
section MODA
variable (l : Launch) (D : va_G) (cA : Nat → ClassId) (th : Int32) (ls : Bool) (ck : Int32) (ru : Nat) (tr al : Int32)

set_option maxRecDepth 100000 in
set_option maxHeartbeats 4000000 in
theorem ev_Md_thrown (n : Nat) : E0_Md_thrown l D cA [.ref 199] [(199, cMd th ls n ck ru tr al)] (some (.int th)) [(199, cMd th ls n ck ru tr al)] := by
  refine mj_ev (lv := [(0, .ref 199)]) (by decide +kernel) (Nat.le_of_ble_eq_true rfl) rfl (fun X h => ?_)
  refine mj_blk h.1 b_Md_thrown_0 rfl trivial ?_
  exact mj_iret h rfl d_Md_thrown_4 (by decide) (by decide) ⟨rfl, rfl⟩
set_option maxRecDepth 100000 in
set_option maxHeartbeats 4000000 in
theorem ev_Md_add (n : Nat) (hn : n < 100) (f : Nat → Int32) (v : Int32) : E0_Md_add l D cA [.ref 199, .int v] [(199, cMd th ls n ck ru tr al), (203, cIs 100 f)] none [(199, cMd th ls (n + 1) ck ru tr al), (203, cIs 100 (upd f n (v &&& 255)))] := by
  refine mj_ev (lv := [(0, .ref 199), (1, .int v)]) (by decide +kernel) (Nat.le_of_ble_eq_true rfl) rfl (fun X h => ?_)
  refine mj_blk h.1 b_Md_add_0 rfl ⟨vp_in_nI hn (by decide), trivial⟩ ?_
  exact mj_vret h rfl d_Md_add_24 (by decide) (by decide) ⟨rfl, by rw [nI_clamp (by omega), ← nI_succ]⟩
set_option maxRecDepth 100000 in
set_option maxHeartbeats 4000000 in
theorem lp_Md_addNumber {X : mj_X} {post : mj_R} (h : mj_E zG X l D cA m_Md_addNumber 1 40 0 0 (fun _ => True) post) (j v : Int32) : ∀ (r n : Nat) (f : Nat → Int32), n + r ≤ 100 → r ≤ 8 → post none [(199, cMd th ls (n + r) ck ru tr al), (203, cIs 100 (mApp r n f v))] → mj_W zG X 0 0 4 [(3, .int (nI r - 1)), (0, .ref 199), (1, .int v), (2, .int j)] [] [(199, cMd th ls n ck ru tr al), (203, cIs 100 f)] := by
  intro r
  induction r with
  | zero =>
    intro n f hn hr hp
    refine mj_blk h.1 b_Md_addNumber_4 rfl trivial ?_
    refine mj_iflt h.1 (tgt := 24) d_Md_addNumber_5 (by decide) (fun h1 => ?_) (fun h1 => ?_)
    · exact mj_vret h rfl d_Md_addNumber_24 (by decide) (by decide) hp
    · exact absurd ((mj_neg (by omega)).mpr rfl) h1
  | succ r ih =>
    intro n f hn hr hp
    refine mj_blk h.1 b_Md_addNumber_4 rfl trivial ?_
    refine mj_iflt h.1 (tgt := 24) d_Md_addNumber_5 (by decide) (fun h1 => ?_) (fun h1 => ?_)
    · exact absurd ((mj_neg (by omega)).mp h1) (Nat.succ_ne_zero _)
    · refine mj_blk h.1 b_Md_addNumber_8 rfl trivial ?_
      refine mj_callV h zGood (ev_Md_add l D cA _ _ _ _ _ _ n (by omega) _ _) v_Md_add l_Md_addNumber_15 d_Md_addNumber_15 rfl ⟨by decide, by decide⟩ ⟨by decide, by decide⟩ [] rfl rfl rfl rfl rfl rfl (Nat.le_of_ble_eq_true rfl) ?_
      rintro _ _ ⟨rfl, rfl⟩
      refine mj_k rfl rfl ?_
      refine mj_blk h.1 b_Md_addNumber_18 rfl trivial ?_
      rw [nI_pred, mj_m1]
      exact ih (n + 1) _ (by omega) (by omega) (by rw [show n + 1 + r = n + (r + 1) by omega]; exact hp)
set_option maxRecDepth 100000 in
set_option maxHeartbeats 4000000 in
theorem ev_Md_addNumber (n : Nat) (f : Nat → Int32) (v : Int32) (r : Nat) (hn : n + r ≤ 100) (hr : r ≤ 8) : E0_Md_addNumber l D cA [.ref 199, .int v, .int (nI r)] [(199, cMd th ls n ck ru tr al), (203, cIs 100 f)] none [(199, cMd th ls (n + r) ck ru tr al), (203, cIs 100 (mApp r n f v))] := by
  refine mj_ev (lv := [(0, .ref 199), (1, .int v), (2, .int (nI r))]) (by decide +kernel) (Nat.le_of_ble_eq_true rfl) rfl (fun X h => ?_)
  refine mj_blk h.1 b_Md_addNumber_0 rfl trivial ?_
  exact lp_Md_addNumber l D cA th ls ck ru tr al h _ v r n f hn hr ⟨rfl, rfl⟩
set_option maxRecDepth 100000 in
set_option maxHeartbeats 4000000 in
theorem ev_Md_alter (n : Nat) (hn : n ≤ 100) (f : Nat → Int32) (k b : Int32) : E0_Md_alter l D cA [.ref 199, .int k, .int b] [(199, cMd th ls n ck ru tr al), (203, cIs 100 f)] (some (.int (if 0 ≤ k ∧ k < nI n then 1 else 0))) [(199, cMd 0 ls n ck ru tr al), (203, cIs 100 (if 0 ≤ k ∧ k < nI n then upd f k.toNatClampNeg (f k.toNatClampNeg ^^^ (b &&& 255)) else f))] := by
  refine mj_ev (lv := [(0, .ref 199), (1, .int k), (2, .int b)]) (by decide +kernel) (Nat.le_of_ble_eq_true rfl) rfl (fun X h => ?_)
  refine mj_blk h.1 b_Md_alter_0 rfl trivial ?_
  refine mj_iflt h.1 (tgt := 17) d_Md_alter_6 (by decide) (fun h1 => ?_) (fun h1 => ?_)
  · refine mj_blk h.1 b_Md_alter_17 rfl trivial ?_
    exact mj_zret h rfl (by first | exact Or.inl rfl | exact Or.inr rfl) d_Md_alter_18 (by decide) (by decide) ⟨by rw [if_neg (show ¬ (0 ≤ k ∧ k < nI n) from fun z => Int32.not_le.mpr h1 z.1)], by rw [if_neg (show ¬ (0 ≤ k ∧ k < nI n) from fun z => Int32.not_le.mpr h1 z.1)]⟩
  · refine mj_blk h.1 b_Md_alter_9 rfl trivial ?_
    refine mj_iclt h.1 (tgt := 19) d_Md_alter_14 (by decide) (fun h2 => ?_) (fun h2 => ?_)
    · refine mj_blk h.1 b_Md_alter_19 rfl ⟨vp_in_of2 ⟨Int32.not_lt.mp h1, h2⟩ hn (by decide), vp_in_of2 ⟨Int32.not_lt.mp h1, h2⟩ hn (by decide), trivial⟩ ?_
      exact mj_zret h rfl (by first | exact Or.inl rfl | exact Or.inr rfl) d_Md_alter_38 (by decide) (by decide) ⟨by rw [if_pos (show 0 ≤ k ∧ k < nI n from ⟨Int32.not_lt.mp h1, h2⟩)], by rw [if_pos (show 0 ≤ k ∧ k < nI n from ⟨Int32.not_lt.mp h1, h2⟩)]⟩
    · refine mj_blk h.1 b_Md_alter_17 rfl trivial ?_
      exact mj_zret h rfl (by first | exact Or.inl rfl | exact Or.inr rfl) d_Md_alter_18 (by decide) (by decide) ⟨by rw [if_neg (show ¬ (0 ≤ k ∧ k < nI n) from fun z => h2 z.2)], by rw [if_neg (show ¬ (0 ≤ k ∧ k < nI n) from fun z => h2 z.2)]⟩
set_option maxRecDepth 100000 in
set_option maxHeartbeats 4000000 in
theorem ev_Md_wipe (n : Nat) (f : Nat → Int32) : E0_Md_wipe l D cA [.ref 199] [(199, cMd th ls n ck ru tr al), (203, cIs 100 f)] none [(199, cMd 0 ls 0 ck ru tr al), (203, cIs 100 f)] := by
  refine mj_ev (lv := [(0, .ref 199)]) (by decide +kernel) (Nat.le_of_ble_eq_true rfl) rfl (fun X h => ?_)
  refine mj_blk h.1 b_Md_wipe_0 rfl trivial ?_
  exact mj_vret h rfl d_Md_wipe_10 (by decide) (by decide) ⟨rfl, rfl⟩
set_option maxRecDepth 100000 in
set_option maxHeartbeats 4000000 in
theorem ev_Md_wire (n : Nat) (hn : n ≤ 100) (f : Nat → Int32) (k : Int32) : E0_Md_wire l D cA [.ref 199, .int k] [(199, cMd th ls n ck ru tr al), (203, cIs 100 f)] (some (.int (qWire n f k))) [(199, cMd 0 ls n ck ru tr al), (203, cIs 100 f)] := by
  refine mj_ev (lv := [(0, .ref 199), (1, .int k)]) (by decide +kernel) (Nat.le_of_ble_eq_true rfl) rfl (fun X h => ?_)
  refine mj_blk h.1 b_Md_wire_0 rfl trivial ?_
  refine mj_icne h.1 (tgt := 17) d_Md_wire_7 (by decide) (fun h1 => ?_) (fun h1 => ?_)
  · refine mj_blk h.1 b_Md_wire_17 rfl trivial ?_
    refine mj_iflt h.1 (tgt := 29) d_Md_wire_18 (by decide) (fun h2 => ?_) (fun h2 => ?_)
    · refine mj_blk h.1 b_Md_wire_29 rfl trivial ?_
      exact mj_iret h rfl d_Md_wire_39 (by decide) (by decide) ⟨by unfold qWire wA; rw [if_neg h1, if_neg (fun z => Int32.not_le.mpr h2 z.1)], rfl⟩
    · refine mj_blk h.1 b_Md_wire_21 rfl trivial ?_
      refine mj_iclt h.1 (tgt := 33) d_Md_wire_26 (by decide) (fun h3 => ?_) (fun h3 => ?_)
      · refine mj_blk h.1 b_Md_wire_33 rfl ⟨vp_in_of2 ⟨Int32.not_lt.mp h2, h3⟩ hn (by decide), trivial⟩ ?_
        exact mj_iret h rfl d_Md_wire_39 (by decide) (by decide) ⟨by unfold qWire wA; rw [if_neg h1, if_pos ⟨Int32.not_lt.mp h2, h3⟩, if_pos ⟨Int32.not_lt.mp h2, h3⟩], rfl⟩
      · refine mj_blk h.1 b_Md_wire_29 rfl trivial ?_
        exact mj_iret h rfl d_Md_wire_39 (by decide) (by decide) ⟨by unfold qWire wA; rw [if_neg h1, if_neg (fun z => h3 z.2)], rfl⟩
  · refine mj_blk h.1 b_Md_wire_10 rfl trivial ?_
    exact mj_iret h rfl d_Md_wire_39 (by decide) (by decide) ⟨by unfold qWire wA; rw [if_pos h1], rfl⟩
set_option maxRecDepth 100000 in
set_option maxHeartbeats 4000000 in
theorem lp_Md_put {X : mj_X} {post : mj_R} (h : mj_E zG X l D cA m_Md_put 1 40 0 0 (fun _ => True) post) (j : Int32) (v : Int64) : ∀ (r n : Nat) (f : Nat → Int32), n + r ≤ 100 → r ≤ 8 → post (some (.int 1)) [(199, cMd th ls (n + r) ck ru tr al), (203, cIs 100 (mPut r n f v))] → mj_W zG X 0 0 34 [(4, .int (nI r - 1)), (0, .ref 199), (1, .int j), (2, .long v)] [] [(199, cMd th ls n ck ru tr al), (203, cIs 100 f)] := by
  intro r
  induction r with
  | zero =>
    intro n f hn hr hp
    refine mj_blk h.1 b_Md_put_34 rfl trivial ?_
    refine mj_iflt h.1 (tgt := 57) d_Md_put_36 (by decide) (fun h1 => ?_) (fun h1 => ?_)
    · refine mj_blk h.1 b_Md_put_57 rfl trivial ?_
      exact mj_zret h rfl (Or.inr rfl) d_Md_put_58 (by decide) (by decide) hp
    · exact absurd ((mj_neg (by omega)).mpr rfl) h1
  | succ r ih =>
    intro n f hn hr hp
    refine mj_blk h.1 b_Md_put_34 rfl trivial ?_
    refine mj_iflt h.1 (tgt := 57) d_Md_put_36 (by decide) (fun h1 => ?_) (fun h1 => ?_)
    · exact absurd ((mj_neg (by omega)).mp h1) (Nat.succ_ne_zero _)
    · refine mj_blk h.1 b_Md_put_39 rfl trivial ?_
      refine mj_callV h zGood (ev_Md_add l D cA _ _ _ _ _ _ n (by omega) _ _) v_Md_add l_Md_put_48 d_Md_put_48 rfl ⟨by decide, by decide⟩ ⟨by decide, by decide⟩ [] rfl rfl rfl rfl rfl rfl (Nat.le_of_ble_eq_true rfl) ?_
      rintro _ _ ⟨rfl, rfl⟩
      refine mj_k rfl rfl ?_
      refine mj_blk h.1 b_Md_put_51 rfl trivial ?_
      rw [nI_pred, mj_m1]
      exact ih (n + 1) _ (by omega) (by omega) (by rw [show n + 1 + r = n + (r + 1) by omega]; exact hp)
set_option maxRecDepth 100000 in
set_option maxHeartbeats 4000000 in
theorem ev_Md_put1 (n : Nat) (hn : n ≤ 100) (f : Nat → Int32) (j : Nat) (hj1 : 1 ≤ j) (hj : j ≤ 8) (hc : n + j ≤ 100) (v : Int64) : E0_Md_put l D cA [.ref 199, .int (nI j), .long v] [(199, cMd th ls n ck ru tr al), (203, cIs 100 f)] (some (.int 1)) [(199, cMd 0 ls (n + j) ck ru tr al), (203, cIs 100 (mPut j n f v))] := by
  refine mj_ev (lv := [(0, .ref 199), (1, .int (nI j)), (2, .long v)]) (by decide +kernel) (Nat.le_of_ble_eq_true rfl) rfl (fun X h => ?_)
  refine mj_blk h.1 b_Md_put_0 rfl trivial ?_
  refine mj_iclt h.1 (tgt := 27) d_Md_put_7 (by decide) (fun h1 => ?_) (fun h1 => ?_)
  · exact absurd ((nI_ltI (b := 1) (by omega) (by decide)).mp h1) (by omega)
  · refine mj_blk h.1 b_Md_put_10 rfl trivial ?_
    refine mj_icgt h.1 (tgt := 27) d_Md_put_13 (by decide) (fun h2 => ?_) (fun h2 => ?_)
    · exact absurd ((nI_ltI (a := 8) (by decide) (by omega)).mp h2) (by omega)
    · refine mj_blk h.1 b_Md_put_16 rfl trivial ?_
      refine mj_icle h.1 (tgt := 29) d_Md_put_24 (by decide) (fun h3 => ?_) (fun h3 => ?_)
      · refine mj_blk h.1 b_Md_put_29 rfl trivial ?_
        exact lp_Md_put l D cA 0 ls ck ru tr al h _ v j n f hc hj ⟨rfl, rfl⟩
      · exact absurd (by rw [nI_add]; exact nI_le (b := 100) hc (by decide)) h3
set_option maxRecDepth 100000 in
set_option maxHeartbeats 4000000 in
theorem ev_Md_put2 (n : Nat) (hn : n ≤ 100) (f : Nat → Int32) (j : Nat) (hj1 : 1 ≤ j) (hj : j ≤ 8) (hc : ¬ n + j ≤ 100) (v : Int64) : E0_Md_put l D cA [.ref 199, .int (nI j), .long v] [(199, cMd th ls n ck ru tr al), (203, cIs 100 f)] (some (.int 0)) [(199, cMd 0 ls n ck ru tr al), (203, cIs 100 f)] := by
  refine mj_ev (lv := [(0, .ref 199), (1, .int (nI j)), (2, .long v)]) (by decide +kernel) (Nat.le_of_ble_eq_true rfl) rfl (fun X h => ?_)
  refine mj_blk h.1 b_Md_put_0 rfl trivial ?_
  refine mj_iclt h.1 (tgt := 27) d_Md_put_7 (by decide) (fun h1 => ?_) (fun h1 => ?_)
  · refine mj_blk h.1 b_Md_put_27 rfl trivial ?_
    exact mj_zret h rfl (Or.inl rfl) d_Md_put_28 (by decide) (by decide) ⟨rfl, rfl⟩
  · refine mj_blk h.1 b_Md_put_10 rfl trivial ?_
    refine mj_icgt h.1 (tgt := 27) d_Md_put_13 (by decide) (fun h2 => ?_) (fun h2 => ?_)
    · refine mj_blk h.1 b_Md_put_27 rfl trivial ?_
      exact mj_zret h rfl (Or.inl rfl) d_Md_put_28 (by decide) (by decide) ⟨rfl, rfl⟩
    · refine mj_blk h.1 b_Md_put_16 rfl trivial ?_
      refine mj_icle h.1 (tgt := 29) d_Md_put_24 (by decide) (fun h3 => ?_) (fun h3 => ?_)
      · exact absurd (by rw [nI_add] at h3; exact (nI_leI (b := 100) (by omega) (by decide)).mp h3) hc
      · refine mj_blk h.1 b_Md_put_27 rfl trivial ?_
        exact mj_zret h rfl (Or.inl rfl) d_Md_put_28 (by decide) (by decide) ⟨rfl, rfl⟩
set_option maxRecDepth 100000 in
set_option maxHeartbeats 4000000 in
theorem ev_Md_put0 (n : Nat) (f : Nat → Int32) (k : Int32) (v : Int64) (hk : k < 1 ∨ 8 < k) : E0_Md_put l D cA [.ref 199, .int k, .long v] [(199, cMd th ls n ck ru tr al), (203, cIs 100 f)] (some (.int 0)) [(199, cMd 0 ls n ck ru tr al), (203, cIs 100 f)] := by
  refine mj_ev (lv := [(0, .ref 199), (1, .int k), (2, .long v)]) (by decide +kernel) (Nat.le_of_ble_eq_true rfl) rfl (fun X h => ?_)
  refine mj_blk h.1 b_Md_put_0 rfl trivial ?_
  refine mj_iclt h.1 (tgt := 27) d_Md_put_7 (by decide) (fun h1 => ?_) (fun h1 => ?_)
  · refine mj_blk h.1 b_Md_put_27 rfl trivial ?_
    exact mj_zret h rfl (Or.inl rfl) d_Md_put_28 (by decide) (by decide) ⟨rfl, rfl⟩
  · refine mj_blk h.1 b_Md_put_10 rfl trivial ?_
    refine mj_icgt h.1 (tgt := 27) d_Md_put_13 (by decide) (fun h2 => ?_) (fun h2 => ?_)
    · refine mj_blk h.1 b_Md_put_27 rfl trivial ?_
      exact mj_zret h rfl (Or.inl rfl) d_Md_put_28 (by decide) (by decide) ⟨rfl, rfl⟩
    · exact absurd hk (fun z => z.elim h1 h2)
abbrev mPair (f : Nat → Int32) (j : Nat) : Int32 := f j <<< ((8 : Int32) &&& 31) ||| f (j + 1)
abbrev mFour (f : Nat → Int32) (j : Nat) : Int32 := mPair f j <<< ((16 : Int32) &&& 31) ||| mPair f (j + 2)
set_option maxRecDepth 100000 in
set_option maxHeartbeats 4000000 in
theorem ev_Md_pair (n : Nat) (f : Nat → Int32) (j : Nat) (hj : j + 1 < 100) : E0_Md_pair l D cA [.ref 199, .int (nI j)] [(199, cMd th ls n ck ru tr al), (203, cIs 100 f)] (some (.int (mPair f j))) [(199, cMd th ls n ck ru tr al), (203, cIs 100 f)] := by
  refine mj_ev (lv := [(0, .ref 199), (1, .int (nI j))]) (by decide +kernel) (Nat.le_of_ble_eq_true rfl) rfl (fun X h => ?_)
  refine mj_blk h.1 b_Md_pair_0 rfl ⟨by rw [nI_1]; exact vp_in_nI (by omega) (by decide), vp_in_nI (by omega) (by decide), trivial⟩ ?_
  exact mj_iret h rfl d_Md_pair_18 (by decide) (by decide) ⟨by rw [nI_1, nI_clamp (by omega), nI_clamp (by omega)], rfl⟩
set_option maxRecDepth 100000 in
set_option maxHeartbeats 4000000 in
theorem ev_Md_four (n : Nat) (f : Nat → Int32) (j : Nat) (hj : j + 3 < 100) : E0_Md_four l D cA [.ref 199, .int (nI j)] [(199, cMd th ls n ck ru tr al), (203, cIs 100 f)] (some (.int (mFour f j))) [(199, cMd th ls n ck ru tr al), (203, cIs 100 f)] := by
  refine mj_ev (lv := [(0, .ref 199), (1, .int (nI j))]) (by decide +kernel) (Nat.le_of_ble_eq_true rfl) rfl (fun X h => ?_)
  refine mj_blk h.1 b_Md_four_0 rfl trivial ?_
  refine mj_callV h zGood (ev_Md_pair l D cA _ _ _ _ _ _ _ _ j (by omega)) v_Md_pair l_Md_four_2 d_Md_four_2 rfl ⟨by decide, by decide⟩ ⟨by decide, by decide⟩ [] rfl rfl rfl rfl rfl rfl (Nat.le_of_ble_eq_true rfl) ?_
  rintro _ _ ⟨rfl, rfl⟩
  refine mj_k rfl rfl ?_
  refine mj_blk h.1 b_Md_four_5 rfl trivial ?_
  rw [show nI j + 2 = nI (j + 2) from nI_add j 2]
  refine mj_callV h zGood (ev_Md_pair l D cA _ _ _ _ _ _ _ _ (j + 2) (by omega)) v_Md_pair l_Md_four_12 d_Md_four_12 rfl ⟨by decide, by decide⟩ ⟨by decide, by decide⟩ [] rfl rfl rfl rfl rfl rfl (Nat.le_of_ble_eq_true rfl) ?_
  rintro _ _ ⟨rfl, rfl⟩
  refine mj_k rfl rfl ?_
  refine mj_blk h.1 b_Md_four_15 rfl trivial ?_
  exact mj_iret h rfl d_Md_four_16 (by decide) (by decide) ⟨rfl, rfl⟩
set_option maxRecDepth 100000 in
set_option maxHeartbeats 4000000 in
theorem ev_Md_headerSize (n : Nat) (f : Nat → Int32) : E0_Md_headerSize l D cA [.ref 199] [(199, cMd th ls n ck ru tr al), (203, cIs 100 f)] (some (.int (4 * (f 0 - 64)))) [(199, cMd th ls n ck ru tr al), (203, cIs 100 f)] := by
  refine mj_ev (lv := [(0, .ref 199)]) (by decide +kernel) (Nat.le_of_ble_eq_true rfl) rfl (fun X h => ?_)
  refine mj_blk h.1 b_Md_headerSize_0 rfl ⟨vp_in_nI (n := 0) (by decide) (by decide), trivial⟩ ?_
  exact mj_iret h rfl d_Md_headerSize_11 (by decide) (by decide) ⟨rfl, rfl⟩
set_option maxRecDepth 100000 in
set_option maxHeartbeats 4000000 in
theorem lp_Md_total {X : mj_X} {post : mj_R} (n : Nat) (f : Nat → Int32) (a b : Nat) (hb : b ≤ 100) (h : mj_E zG X l D cA m_Md_total 0 0 0 0 (fun _ => True) post) : ∀ (r k : Nat) (s : Int32), k + r = b → post (some (.int (mTot f a r k s))) [(199, cMd th ls n ck ru tr al), (203, cIs 100 f)] → mj_W zG X 0 0 5 [(4, .int (nI k)), (3, .int s), (0, .ref 199), (1, .int (nI a)), (2, .int (nI b))] [] [(199, cMd th ls n ck ru tr al), (203, cIs 100 f)] := by
  intro r
  induction r with
  | zero =>
    intro k s hk hp
    refine mj_blk h.1 b_Md_total_5 rfl trivial ?_
    refine mj_icge h.1 (tgt := 49) d_Md_total_8 (by decide) (fun h1 => ?_) (fun h1 => ?_)
    · refine mj_blk h.1 b_Md_total_49 rfl trivial ?_
      exact mj_iret h rfl d_Md_total_50 (by decide) (by decide) hp
    · exact absurd (nI_le (by omega) (by omega)) h1
  | succ r ih =>
    intro k s hk hp
    refine mj_blk h.1 b_Md_total_5 rfl trivial ?_
    refine mj_icge h.1 (tgt := 49) d_Md_total_8 (by decide) (fun h1 => ?_) (fun h1 => ?_)
    · exact absurd ((nI_leI (by omega) (by omega)).mp h1) (by omega)
    · refine mj_blk h.1 b_Md_total_11 rfl ⟨by decide, trivial⟩ ?_
      first | refine mj_ifneB h.1 (tgt := 34) d_Md_total_18 (by decide) (fun h2 => ?_) (fun h2 => ?_) | refine mj_ifne h.1 (tgt := 34) d_Md_total_18 (by decide) (fun h2 => ?_) (fun h2 => ?_)
      · refine mj_blk h.1 b_Md_total_34 rfl ⟨vp_in_nI (by omega) (by decide), trivial⟩ ?_
        refine mj_blk h.1 b_Md_total_41 rfl trivial ?_
        have hp2 := hp
        unfold mTot at hp2
        rw [if_neg h2] at hp2
        rw [nI_clamp (by omega), show nI k + 1 = nI (k + 1) from (nI_succ k).symm]
        exact ih (k + 1) _ (by omega) hp2
      · refine mj_blk h.1 b_Md_total_21 rfl ⟨vp_in_nI (by omega) (by decide), trivial⟩ ?_
        refine mj_blk h.1 b_Md_total_41 rfl trivial ?_
        have hp2 := hp
        unfold mTot at hp2
        rw [if_pos h2] at hp2
        rw [nI_clamp (by omega), show nI k + 1 = nI (k + 1) from (nI_succ k).symm]
        exact ih (k + 1) _ (by omega) hp2
set_option maxRecDepth 100000 in
set_option maxHeartbeats 4000000 in
theorem ev_Md_total (n : Nat) (f : Nat → Int32) (a b : Nat) (hb : b ≤ 100) (hab : a ≤ b) : E0_Md_total l D cA [.ref 199, .int (nI a), .int (nI b)] [(199, cMd th ls n ck ru tr al), (203, cIs 100 f)] (some (.int (mTot f a (b - a) a 0))) [(199, cMd th ls n ck ru tr al), (203, cIs 100 f)] := by
  refine mj_ev (lv := [(0, .ref 199), (1, .int (nI a)), (2, .int (nI b))]) (by decide +kernel) (Nat.le_of_ble_eq_true rfl) rfl (fun X h => ?_)
  refine mj_blk h.1 b_Md_total_0 rfl trivial ?_
  exact lp_Md_total l D cA th ls ck ru tr al n f a b hb h (b - a) a 0 (by omega) ⟨rfl, rfl⟩
def mFo4 : Nat → Int32 → Int32
  | 0, x => x
  | r + 1, x => mFo4 r (mFo x)
set_option maxRecDepth 100000 in
set_option maxHeartbeats 4000000 in
theorem lp_Md_folded {X : mj_X} {post : mj_R} (v : Int32) (h : mj_E zG X l D cA m_Md_folded 0 0 0 0 (fun _ => True) post) : ∀ (r i : Nat) (x : Int32), i + r = 4 → post (some (.int (mFo4 r x))) [] → mj_W zG X 0 0 4 [(2, .int (nI i)), (1, .int x), (0, .int v)] [] [] := by
  intro r
  induction r with
  | zero =>
    intro i x hi hp
    refine mj_blk h.1 b_Md_folded_4 rfl trivial ?_
    refine mj_icge h.1 (tgt := 35) d_Md_folded_6 (by decide) (fun h1 => ?_) (fun h1 => ?_)
    · refine mj_blk h.1 b_Md_folded_35 rfl trivial ?_
      exact mj_iret h rfl d_Md_folded_36 (by decide) (by decide) hp
    · exact absurd (show nI 4 ≤ nI i from nI_le (by omega) (by omega)) h1
  | succ r ih =>
    intro i x hi hp
    refine mj_blk h.1 b_Md_folded_4 rfl trivial ?_
    refine mj_icge h.1 (tgt := 35) d_Md_folded_6 (by decide) (fun h1 => ?_) (fun h1 => ?_)
    · exact absurd ((nI_leI (a := 4) (by omega) (by omega)).mp h1) (by omega)
    · refine mj_blk h.1 b_Md_folded_9 rfl trivial ?_
      refine mj_icle h.1 (tgt := 27) d_Md_folded_12 (by decide) (fun h2 => ?_) (fun h2 => ?_)
      · refine mj_blk h.1 b_Md_folded_27 rfl trivial ?_
        refine mj_blk h.1 b_Md_folded_28 rfl trivial ?_
        have hp2 := hp
        unfold mFo4 mFo at hp2
        rw [if_pos h2] at hp2
        rw [show nI i + 1 = nI (i + 1) from (nI_succ i).symm]
        exact ih (i + 1) _ (by omega) hp2
      · refine mj_blk h.1 b_Md_folded_15 rfl trivial ?_
        refine mj_blk h.1 b_Md_folded_28 rfl trivial ?_
        have hp2 := hp
        unfold mFo4 mFo at hp2
        rw [if_neg h2] at hp2
        rw [show nI i + 1 = nI (i + 1) from (nI_succ i).symm]
        exact ih (i + 1) _ (by omega) hp2
set_option maxRecDepth 100000 in
set_option maxHeartbeats 4000000 in
theorem ev_Md_folded (x : Int32) : E0_Md_folded l D cA [.int x] [] (some (.int (mFo4 4 x))) [] := by
  refine mj_ev (lv := [(0, .int x)]) (by decide +kernel) (Nat.le_of_ble_eq_true rfl) rfl (fun X h => ?_)
  refine mj_blk h.1 b_Md_folded_0 rfl trivial ?_
  exact lp_Md_folded l D cA x h 4 0 x (by omega) ⟨rfl, rfl⟩
end MODA
