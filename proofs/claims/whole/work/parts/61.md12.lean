/-! The reference: holdsOn (by program: wip/whole/src_md12.py) -/
theorem mUU (f : Nat → Int32) (k : Nat) (a b : Int32) : upd (upd f k a) k b = upd f k b := by
  funext j
  by_cases hj : j = k
  · rw [hj, pk_us, pk_us]
  · rw [pk_un hj, pk_un hj, pk_un hj]
theorem mUself {f : Nat → Int32} {k : Nat} {x : Int32} (h : f k = x) : upd f k x = f := by
  funext j
  by_cases hj : j = k
  · rw [hj, pk_us, h]
  · rw [pk_un hj]
/-- the options that must stand: how many, their numbers -/
def mLvT (mk : Nat → Int32) (rr : Nat) : Nat → Nat → Nat → Nat
  | 0, _, T => T
  | r + 1, i, T => if mk (3 * rr + i) &&& 2 = 0 then mLvT mk rr r (i + 1) (T + 1) else mLvT mk rr r (i + 1) T
def mLvA (mk : Nat → Int32) (rr : Nat) : Nat → Nat → Nat → (Nat → Int32) → (Nat → Int32)
  | 0, _, _, g => g
  | r + 1, i, T, g => if mk (3 * rr + i) &&& 2 = 0 then mLvA mk rr r (i + 1) (T + 1) (upd g T (nI (3 * rr + i))) else mLvA mk rr r (i + 1) T g
def mLvN (mk : Nat → Int32) (rr : Nat) : Nat → Nat → Nat → (Nat → Nat) → (Nat → Nat)
  | 0, _, _, g => g
  | r + 1, i, T, g => if mk (3 * rr + i) &&& 2 = 0 then mLvN mk rr r (i + 1) (T + 1) (fun j => if j = T then 3 * rr + i else g j) else mLvN mk rr r (i + 1) T g
theorem mLv_ok (mk : Nat → Int32) (rr : Nat) (hr : rr < 6) : ∀ (r i T : Nat) (g : Nat → Int32) (q : Nat → Nat), i + r ≤ 3 → (∀ j, j < T → g j = nI (q j) ∧ q j < 18) →
    mLvT mk rr r i T ≤ T + r ∧ ∀ j, j < mLvT mk rr r i T → mLvA mk rr r i T g j = nI (mLvN mk rr r i T q j) ∧ mLvN mk rr r i T q j < 18 := by
  intro r
  induction r with
  | zero => intro i T g q _ h; exact ⟨Nat.le_refl _, h⟩
  | succ r ih =>
    intro i T g q hi h
    unfold mLvT mLvA mLvN
    by_cases hm : mk (3 * rr + i) &&& 2 = 0
    · rw [if_pos hm, if_pos hm, if_pos hm]
      have h2 := ih (i + 1) (T + 1) (upd g T (nI (3 * rr + i))) (fun j => if j = T then 3 * rr + i else q j) (by omega) (fun j hj => by
        by_cases hjT : j = T
        · rw [hjT, pk_us, if_pos rfl]; exact ⟨rfl, by omega⟩
        · rw [pk_un hjT, if_neg hjT]; exact h j (by omega))
      exact ⟨by have := h2.1; omega, h2.2⟩
    · rw [if_neg hm, if_neg hm, if_neg hm]
      have h2 := ih (i + 1) T g q (by omega) h
      exact ⟨by have := h2.1; omega, h2.2⟩
/-- one level's places; the levels -/
def mLoop (F : Nat → (Nat → Int32) → Bool) (k : Nat) (G : (Nat → Int32) → Bool × (Nat → Int32)) : Nat → Nat → (Nat → Int32) → Bool × (Nat → Int32)
  | 0, p, pl => (false, upd pl k (nI p))
  | r + 1, p, pl => if F p (upd pl k (nI p)) = true then (if (G (upd pl k (nI p))).1 = true then G (upd pl k (nI p)) else mLoop F k G r (p + 1) (G (upd pl k (nI p))).2) else mLoop F k G r (p + 1) (upd pl k (nI p))
def mSr (F : Nat → Nat → (Nat → Int32) → Bool) (C : (Nat → Int32) → Bool) (s : Nat) : Nat → Nat → (Nat → Int32) → Bool × (Nat → Int32)
  | 0, _, pl => (C pl, pl)
  | d + 1, k, pl => mLoop (F k) k (mSr F C s d (k + 1)) s 0 pl
theorem mLoop_keep (F : Nat → (Nat → Int32) → Bool) (k : Nat) (G : (Nat → Int32) → Bool × (Nat → Int32)) (j : Nat) (hj : j ≠ k) (hG : ∀ pl, (G pl).2 j = pl j) : ∀ (r p : Nat) (pl : Nat → Int32), (mLoop F k G r p pl).2 j = pl j := by
  intro r
  induction r with
  | zero => intro p pl; exact pk_un hj
  | succ r ih =>
    intro p pl
    unfold mLoop
    split
    · split
      · rw [hG, pk_un hj]
      · rw [ih, hG, pk_un hj]
    · rw [ih, pk_un hj]
theorem mSr_keep (F : Nat → Nat → (Nat → Int32) → Bool) (C : (Nat → Int32) → Bool) (s : Nat) : ∀ (d k : Nat) (pl : Nat → Int32) (j : Nat), j < k → (mSr F C s d k pl).2 j = pl j := by
  intro d
  induction d with
  | zero => intro k pl j _; rfl
  | succ d ih =>
    intro k pl j hj
    unfold mSr
    exact mLoop_keep _ k _ j (by omega) (fun q => ih (k + 1) q j (by omega)) s 0 pl
section MODL
variable (l : Launch) (D : va_G) (cA : Nat → ClassId) (th : Int32) (ls : Bool) (n : Nat) (ck : Int32) (ru : Nat) (al : Int32) (sz tx op cs ct mk lst spn : Nat → Int32)

set_option maxRecDepth 100000 in
set_option maxHeartbeats 8000000 in
theorem lp_Md_holdsOn_f {X : mj_X} {post : mj_R} (h : mj_E zG X l D cA m_Md_holdsOn 3 120 0 0 (fun _ => True) post) (rr t on : Nat) (hrr : rr < 6) (hop : op (mIx rr) = nI on) (hon : on ≤ 3) (pl : Nat → Int32) : ∀ (r i T : Nat) (lvl : Nat → Int32), i + r = on → T ≤ i → (∀ i9 : Nat, mj_W zG X 0 0 62 [(3, .int (nI i9)), (0, .ref 199), (1, .int (nI rr)), (2, .int (nI t))] [] [(199, cMd th ls n ck ru (nI (mLvT mk rr r i T)) al), (214, cIs 8 sz), (215, cIs 640 tx), (222, cIs 6 op), (223, cIs 18 cs), (224, cIs 108 ct), (225, cIs 18 mk), (226, cIs 18 lst), (227, cIs 18 spn), (229, cIs 3 (mLvA mk rr r i T lvl)), (230, cIs 3 pl)]) → mj_W zG X 0 0 7 [(3, .int (nI i)), (0, .ref 199), (1, .int (nI rr)), (2, .int (nI t))] [] [(199, cMd th ls n ck ru (nI T) al), (214, cIs 8 sz), (215, cIs 640 tx), (222, cIs 6 op), (223, cIs 18 cs), (224, cIs 108 ct), (225, cIs 18 mk), (226, cIs 18 lst), (227, cIs 18 spn), (229, cIs 3 lvl), (230, cIs 3 pl)] := by
  intro r
  induction r with
  | zero =>
    intro i T lvl hk hT K
    refine mj_blk h.1 b_Md_holdsOn_7 rfl ⟨vp_in_nI (by omega) (by decide), trivial⟩ ?_
    rw [hop]
    refine mj_icge h.1 (tgt := 62) d_Md_holdsOn_14 (by decide) (fun h1 => ?_) (fun h1 => ?_)
    · exact K i
    · exact absurd (nI_le (by omega) (by omega)) h1
  | succ r ih =>
    intro i T lvl hk hT K
    refine mj_blk h.1 b_Md_holdsOn_7 rfl ⟨vp_in_nI (by omega) (by decide), trivial⟩ ?_
    rw [hop]
    refine mj_icge h.1 (tgt := 62) d_Md_holdsOn_14 (by decide) (fun h1 => ?_) (fun h1 => ?_)
    · exact absurd ((nI_leI (by omega) (by omega)).mp h1) (by omega)
    · refine mj_blk h.1 b_Md_holdsOn_17 rfl ⟨by rw [m3]; exact vp_in_nI (by omega) (by decide), trivial⟩ ?_
      rw [m3, nI_clamp (by omega)]
      first | refine mj_ifneB h.1 (tgt := 56) d_Md_holdsOn_29 (by decide) (fun h2 => ?_) (fun h2 => ?_) | refine mj_ifne h.1 (tgt := 56) d_Md_holdsOn_29 (by decide) (fun h2 => ?_) (fun h2 => ?_)
      · try rw [m3]
        refine mj_blk h.1 b_Md_holdsOn_56 rfl trivial ?_
        rw [show nI i + 1 = nI (i + 1) from (nI_succ i).symm]
        unfold mLvT mLvA at K
        rw [if_neg h2, if_neg h2] at K
        exact ih (i + 1) T lvl (by omega) (by omega) K
      · refine mj_blk h.1 b_Md_holdsOn_32 rfl ⟨vp_in_nI (by omega) (by decide), trivial⟩ ?_
        try rw [m3]
        refine mj_blk h.1 b_Md_holdsOn_56 rfl trivial ?_
        rw [show nI i + 1 = nI (i + 1) from (nI_succ i).symm]
        unfold mLvT mLvA at K
        rw [if_pos h2, if_pos h2] at K
        rw [nI_clamp (n := T) (by omega), show nI T + 1 = nI (T + 1) from (nI_succ T).symm]
        exact ih (i + 1) (T + 1) _ (by omega) (by omega) K
abbrev mFk (ct tx mk lst spn cs : Nat → Int32) (cN lN : Nat → Nat) (t s : Nat) (k p : Nat) (pl : Nat → Int32) : Bool := mFd ct tx mk lst spn (lN k) t p (cN (lN k)) s (mBs mk cs pl lN (lN k) k)
abbrev mCk (ct tx mk lst spn cs : Nat → Int32) (cN lN : Nat → Nat) (T t s rr on : Nat) (pl : Nat → Int32) : Bool := mCl ct tx mk lst spn cs pl cN lN T t s rr on 0
set_option maxRecDepth 100000 in
set_option maxHeartbeats 8000000 in
theorem lp_Md_holdsOn_r {X : mj_X} {post : mj_R} (h : mj_E zG X l D cA m_Md_holdsOn 3 120 0 0 (fun _ => True) post) (cN lN : Nat → Nat) (T : Nat) (hT : T ≤ 3) (lvl : Nat → Int32) (hl : ∀ i, i < T → lvl i = nI (lN i)) (hl2 : ∀ i, i < T → lN i < 18) (rr t s on : Nat) (hrr : rr < 6) (ht : t < 8) (hs9 : s ≤ 80) (hsz : sz (mIx t) = nI s) (hop : op (mIx rr) = nI on) (hon : on ≤ 3) (hcs : ∀ i, i < 18 → cs (mIx i) = nI (cN i)) (hcN : ∀ i, i < 18 → cN i ≤ 6) (k : Nat) (hkT : k < T) (G : (Nat → Int32) → Bool × (Nat → Int32)) (hG : ∀ pl1, ((G pl1).1 = false → mj_W zG X 0 0 102 [(3, .int (nI k)), (0, .ref 199), (1, .int (nI rr)), (2, .int (nI t))] [] [(199, cMd th ls n ck ru (nI T) al), (214, cIs 8 sz), (215, cIs 640 tx), (222, cIs 6 op), (223, cIs 18 cs), (224, cIs 108 ct), (225, cIs 18 mk), (226, cIs 18 lst), (227, cIs 18 spn), (229, cIs 3 lvl), (230, cIs 3 (G pl1).2)]) → ((G pl1).1 = true → post (some (.int 1)) [(199, cMd th ls n ck ru (nI T) al), (214, cIs 8 sz), (215, cIs 640 tx), (222, cIs 6 op), (223, cIs 18 cs), (224, cIs 108 ct), (225, cIs 18 mk), (226, cIs 18 lst), (227, cIs 18 spn), (229, cIs 3 lvl), (230, cIs 3 (G pl1).2)]) → mj_W zG X 0 0 168 [(3, .int (nI k)), (0, .ref 199), (1, .int (nI rr)), (2, .int (nI t))] [] [(199, cMd th ls n ck ru (nI T) al), (214, cIs 8 sz), (215, cIs 640 tx), (222, cIs 6 op), (223, cIs 18 cs), (224, cIs 108 ct), (225, cIs 18 mk), (226, cIs 18 lst), (227, cIs 18 spn), (229, cIs 3 lvl), (230, cIs 3 pl1)]) (hGk : ∀ pl1, (G pl1).2 k = pl1 k) : ∀ (r p : Nat) (pl : Nat → Int32), p + r = s → ((mLoop ((mFk ct tx mk lst spn cs cN lN t s) k) k G r p pl).1 = false → mj_W zG X 0 0 102 [(3, .int (nI k + -1)), (0, .ref 199), (1, .int (nI rr)), (2, .int (nI t))] [] [(199, cMd th ls n ck ru (nI T) al), (214, cIs 8 sz), (215, cIs 640 tx), (222, cIs 6 op), (223, cIs 18 cs), (224, cIs 108 ct), (225, cIs 18 mk), (226, cIs 18 lst), (227, cIs 18 spn), (229, cIs 3 lvl), (230, cIs 3 (mLoop ((mFk ct tx mk lst spn cs cN lN t s) k) k G r p pl).2)]) → ((mLoop ((mFk ct tx mk lst spn cs cN lN t s) k) k G r p pl).1 = true → post (some (.int 1)) [(199, cMd th ls n ck ru (nI T) al), (214, cIs 8 sz), (215, cIs 640 tx), (222, cIs 6 op), (223, cIs 18 cs), (224, cIs 108 ct), (225, cIs 18 mk), (226, cIs 18 lst), (227, cIs 18 spn), (229, cIs 3 lvl), (230, cIs 3 (mLoop ((mFk ct tx mk lst spn cs cN lN t s) k) k G r p pl).2)]) → mj_W zG X 0 0 102 [(3, .int (nI k)), (0, .ref 199), (1, .int (nI rr)), (2, .int (nI t))] [] [(199, cMd th ls n ck ru (nI T) al), (214, cIs 8 sz), (215, cIs 640 tx), (222, cIs 6 op), (223, cIs 18 cs), (224, cIs 108 ct), (225, cIs 18 mk), (226, cIs 18 lst), (227, cIs 18 spn), (229, cIs 3 lvl), (230, cIs 3 (upd pl k (nI p - 1)))] := by
  intro r
  induction r with
  | zero =>
    intro p pl hk Kf Kt
    refine mj_blk h.1 b_Md_holdsOn_102 rfl trivial ?_
    refine mj_iflt h.1 (tgt := 202) d_Md_holdsOn_103 (by decide) (fun h1 => ?_) (fun h1 => ?_)
    · exact absurd h1 (nI_pos (by omega))
    · refine mj_blk h.1 b_Md_holdsOn_106 rfl ⟨vp_in_nI (by omega) (by decide), vp_in_nI (by omega) (by decide), vp_in_nI (by omega) (by decide), vp_in_nI (by omega) (by decide), trivial⟩ ?_
      rw [nI_clamp (n := k) (by omega), show upd (upd pl k (nI p - 1)) k (upd pl k (nI p - 1) k + 1) = upd pl k (nI p) by rw [pk_us, mUU, Int32.sub_add_cancel], pk_us, hsz]
      refine mj_iclt h.1 (tgt := 137) d_Md_holdsOn_128 (by decide) (fun h2 => ?_) (fun h2 => ?_)
      · exact absurd (nI_le (by omega) (by omega)) (Int32.not_le.mpr h2)
      · refine mj_blk h.1 b_Md_holdsOn_131 rfl trivial ?_
        rw [show p = s by omega] at Kf
        exact (show p = s by omega) ▸ Kf rfl
  | succ r ih =>
    intro p pl hk Kf Kt
    refine mj_blk h.1 b_Md_holdsOn_102 rfl trivial ?_
    refine mj_iflt h.1 (tgt := 202) d_Md_holdsOn_103 (by decide) (fun h1 => ?_) (fun h1 => ?_)
    · exact absurd h1 (nI_pos (by omega))
    · refine mj_blk h.1 b_Md_holdsOn_106 rfl ⟨vp_in_nI (by omega) (by decide), vp_in_nI (by omega) (by decide), vp_in_nI (by omega) (by decide), vp_in_nI (by omega) (by decide), trivial⟩ ?_
      rw [nI_clamp (n := k) (by omega), show upd (upd pl k (nI p - 1)) k (upd pl k (nI p - 1) k + 1) = upd pl k (nI p) by rw [pk_us, mUU, Int32.sub_add_cancel], pk_us, hsz]
      refine mj_iclt h.1 (tgt := 137) d_Md_holdsOn_128 (by decide) (fun h2 => ?_) (fun h2 => ?_)
      · refine mj_blk h.1 b_Md_holdsOn_137 rfl ⟨vp_in_nI (by omega) (by decide), vp_in_nI (by omega) (by decide), vp_in_nI (by omega) (by decide), trivial⟩ ?_
        rw [nI_clamp (n := k) (by omega), hl k (by omega), pk_us]
        refine mj_callV h zGood (ev_Md_base l D cA _ _ _ _ _ _ _ cs mk lvl (upd pl k (nI p)) lN (lN k) k (hl2 k (by omega)) (by omega) (fun i hi => hl i (by omega)) (fun i hi => hl2 i (by omega))) v_Md_base l_Md_holdsOn_159 d_Md_holdsOn_159 rfl ⟨by decide, by decide⟩ ⟨by decide, by decide⟩ [] rfl rfl rfl rfl rfl rfl (Nat.le_of_ble_eq_true rfl) ?_
        rintro _ _ ⟨rfl, rfl⟩
        refine mj_k rfl rfl ?_
        refine mj_callV h zGood (ev_Md_found l D cA _ _ _ _ _ _ _ sz tx cs ct mk lst spn (lN k) t p (cN (lN k)) s (hl2 k (by omega)) ht (hcN _ (hl2 k (by omega))) hs9 (hcs _ (hl2 k (by omega))) hsz (by omega) _) v_Md_found l_Md_holdsOn_162 d_Md_holdsOn_162 rfl ⟨by decide, by decide⟩ ⟨by decide, by decide⟩ [] rfl rfl rfl rfl rfl rfl (Nat.le_of_ble_eq_true rfl) ?_
        rintro _ _ ⟨rfl, rfl⟩
        refine mj_k rfl rfl ?_
        first | refine mj_ifeqB h.1 (tgt := 102) d_Md_holdsOn_165 (by decide) (fun h3 => ?_) (fun h3 => ?_) | refine mj_ifeq h.1 (tgt := 102) d_Md_holdsOn_165 (by decide) (fun h3 => ?_) (fun h3 => ?_)
        · have e : (mLoop ((mFk ct tx mk lst spn cs cN lN t s) k) k G (r + 1) p pl) = (mLoop ((mFk ct tx mk lst spn cs cN lN t s) k) k G r (p + 1) (upd pl k (nI p))) := by
            conv => lhs; unfold mLoop
            rw [if_neg h3]
          rw [e] at Kf Kt
          have q := ih (p + 1) (upd pl k (nI p)) (by omega) Kf Kt
          rw [mUU, nI_pred] at q
          exact q
        · have e : (mLoop ((mFk ct tx mk lst spn cs cN lN t s) k) k G (r + 1) p pl) = if (G (upd pl k (nI p))).1 = true then G (upd pl k (nI p)) else (mLoop ((mFk ct tx mk lst spn cs cN lN t s) k) k G r (p + 1) (G (upd pl k (nI p))).2) := by
            conv => lhs; unfold mLoop
            rw [if_pos h3]
          refine hG _ (fun hq => ?_) (fun hq => ?_)
          · rw [e, if_neg (by rw [hq]; decide)] at Kf Kt
            have q := ih (p + 1) (G (upd pl k (nI p))).2 (by omega) Kf Kt
            rw [nI_pred, mUself (by rw [hGk, pk_us])] at q
            exact q
          · rw [e, if_pos hq] at Kt
            exact Kt hq
      · exact absurd (nI_lt (by omega) (by omega)) h2
set_option maxRecDepth 100000 in
set_option maxHeartbeats 8000000 in
theorem lp_Md_holdsOn_d {X : mj_X} {post : mj_R} (h : mj_E zG X l D cA m_Md_holdsOn 3 120 0 0 (fun _ => True) post) (cN lN : Nat → Nat) (T : Nat) (hT : T ≤ 3) (lvl : Nat → Int32) (hl : ∀ i, i < T → lvl i = nI (lN i)) (hl2 : ∀ i, i < T → lN i < 18) (rr t s on : Nat) (hrr : rr < 6) (ht : t < 8) (hs9 : s ≤ 80) (hsz : sz (mIx t) = nI s) (hop : op (mIx rr) = nI on) (hon : on ≤ 3) (hcs : ∀ i, i < 18 → cs (mIx i) = nI (cN i)) (hcN : ∀ i, i < 18 → cN i ≤ 6) : ∀ (d k : Nat) (pl : Nat → Int32), k + (d + 1) = T → ((mSr (mFk ct tx mk lst spn cs cN lN t s) (mCk ct tx mk lst spn cs cN lN T t s rr on) s (d + 1) k pl).1 = false → mj_W zG X 0 0 102 [(3, .int (nI k + -1)), (0, .ref 199), (1, .int (nI rr)), (2, .int (nI t))] [] [(199, cMd th ls n ck ru (nI T) al), (214, cIs 8 sz), (215, cIs 640 tx), (222, cIs 6 op), (223, cIs 18 cs), (224, cIs 108 ct), (225, cIs 18 mk), (226, cIs 18 lst), (227, cIs 18 spn), (229, cIs 3 lvl), (230, cIs 3 (mSr (mFk ct tx mk lst spn cs cN lN t s) (mCk ct tx mk lst spn cs cN lN T t s rr on) s (d + 1) k pl).2)]) → ((mSr (mFk ct tx mk lst spn cs cN lN t s) (mCk ct tx mk lst spn cs cN lN T t s rr on) s (d + 1) k pl).1 = true → post (some (.int 1)) [(199, cMd th ls n ck ru (nI T) al), (214, cIs 8 sz), (215, cIs 640 tx), (222, cIs 6 op), (223, cIs 18 cs), (224, cIs 108 ct), (225, cIs 18 mk), (226, cIs 18 lst), (227, cIs 18 spn), (229, cIs 3 lvl), (230, cIs 3 (mSr (mFk ct tx mk lst spn cs cN lN t s) (mCk ct tx mk lst spn cs cN lN T t s rr on) s (d + 1) k pl).2)]) → mj_W zG X 0 0 102 [(3, .int (nI k)), (0, .ref 199), (1, .int (nI rr)), (2, .int (nI t))] [] [(199, cMd th ls n ck ru (nI T) al), (214, cIs 8 sz), (215, cIs 640 tx), (222, cIs 6 op), (223, cIs 18 cs), (224, cIs 108 ct), (225, cIs 18 mk), (226, cIs 18 lst), (227, cIs 18 spn), (229, cIs 3 lvl), (230, cIs 3 (upd pl k (-1)))] := by
  intro d
  induction d with
  | zero =>
    intro k pl hk Kf Kt
    refine lp_Md_holdsOn_r l D cA th ls n ck ru al sz tx op cs ct mk lst spn h cN lN T hT lvl hl hl2 rr t s on hrr ht hs9 hsz hop hon hcs hcN k (by omega) (mSr (mFk ct tx mk lst spn cs cN lN t s) (mCk ct tx mk lst spn cs cN lN T t s rr on) s 0 (k + 1)) (fun pl1 Kf1 Kt1 => ?_) (fun _ => rfl) s 0 pl (by omega) Kf Kt
    refine mj_blk h.1 b_Md_holdsOn_168 rfl trivial ?_
    refine mj_icge h.1 (tgt := 191) d_Md_holdsOn_175 (by decide) (fun h1 => ?_) (fun h1 => ?_)
    · refine mj_blk h.1 b_Md_holdsOn_191 rfl trivial ?_
      refine mj_callV h zGood (ev_Md_clean l D cA _ _ _ _ _ T _ sz tx op cs ct mk lst spn lvl pl1 cN lN hT hl hl2 rr t s on hrr ht hs9 hsz hop hon hcs hcN) v_Md_clean l_Md_holdsOn_194 d_Md_holdsOn_194 rfl ⟨by decide, by decide⟩ ⟨by decide, by decide⟩ [] rfl rfl rfl rfl rfl rfl (Nat.le_of_ble_eq_true rfl) ?_
      rintro _ _ ⟨rfl, rfl⟩
      refine mj_k rfl rfl ?_
      first | refine mj_ifeqB h.1 (tgt := 102) d_Md_holdsOn_197 (by decide) (fun h2 => ?_) (fun h2 => ?_) | refine mj_ifeq h.1 (tgt := 102) d_Md_holdsOn_197 (by decide) (fun h2 => ?_) (fun h2 => ?_)
      · exact Kf1 (Bool.eq_false_iff.mpr h2)
      · refine mj_blk h.1 b_Md_holdsOn_200 rfl trivial ?_
        exact mj_zret h rfl (Or.inr rfl) d_Md_holdsOn_201 (by decide) (by decide) (Kt1 h2)
    · exact absurd (show nI T ≤ nI k + 1 by rw [nI_1]; exact nI_le (by omega) (by omega)) h1
  | succ d ih =>
    intro k pl hk Kf Kt
    refine lp_Md_holdsOn_r l D cA th ls n ck ru al sz tx op cs ct mk lst spn h cN lN T hT lvl hl hl2 rr t s on hrr ht hs9 hsz hop hon hcs hcN k (by omega) (mSr (mFk ct tx mk lst spn cs cN lN t s) (mCk ct tx mk lst spn cs cN lN T t s rr on) s (d + 1) (k + 1)) (fun pl1 Kf1 Kt1 => ?_) (fun pl1 => mSr_keep _ _ s (d + 1) (k + 1) pl1 k (by omega)) s 0 pl (by omega) Kf Kt
    refine mj_blk h.1 b_Md_holdsOn_168 rfl trivial ?_
    refine mj_icge h.1 (tgt := 191) d_Md_holdsOn_175 (by decide) (fun h1 => ?_) (fun h1 => ?_)
    · exact absurd (show nI T ≤ nI (k + 1) by rw [← nI_1]; exact h1) (nI_ge (by omega) (by omega))
    · refine mj_blk h.1 b_Md_holdsOn_178 rfl ⟨by rw [nI_1]; exact vp_in_nI (by omega) (by decide), trivial⟩ ?_
      rw [nI_1, nI_clamp (n := k + 1) (by omega)]
      exact ih (k + 1) pl1 (by omega) (fun hf => by rw [pk_m1]; exact Kf1 hf) Kt1
def mHo (ct tx mk lst spn cs : Nat → Int32) (cN lN : Nat → Nat) (T t s rr on : Nat) (pl : Nat → Int32) : Bool × (Nat → Int32) :=
  if T = 0 then (if on = 0 then (false, pl) else (mCl ct tx mk lst spn cs pl cN lN T t s rr on 0, pl)) else (mSr (mFk ct tx mk lst spn cs cN lN t s) (mCk ct tx mk lst spn cs cN lN T t s rr on) s T 0 pl)
theorem mHo_a (ct tx mk lst spn cs : Nat → Int32) (cN lN : Nat → Nat) (T t s rr on : Nat) (pl : Nat → Int32) (h : T = 0) (ho : on = 0) : mHo ct tx mk lst spn cs cN lN T t s rr on pl = (false, pl) := by unfold mHo; rw [if_pos h, if_pos ho]
theorem mHo_b (ct tx mk lst spn cs : Nat → Int32) (cN lN : Nat → Nat) (T t s rr on : Nat) (pl : Nat → Int32) (h : T = 0) (ho : ¬ on = 0) : mHo ct tx mk lst spn cs cN lN T t s rr on pl = (mCl ct tx mk lst spn cs pl cN lN T t s rr on 0, pl) := by unfold mHo; rw [if_pos h, if_neg ho]
theorem mHo_c (ct tx mk lst spn cs : Nat → Int32) (cN lN : Nat → Nat) (T t s rr on : Nat) (pl : Nat → Int32) (h : ¬ T = 0) : mHo ct tx mk lst spn cs cN lN T t s rr on pl = (mSr (mFk ct tx mk lst spn cs cN lN t s) (mCk ct tx mk lst spn cs cN lN T t s rr on) s T 0 pl) := by unfold mHo; rw [if_neg h]
set_option maxRecDepth 100000 in
set_option maxHeartbeats 4000000 in
theorem ev_Md_holdsOn (cN lN : Nat → Nat) (T : Nat) (lvl : Nat → Int32) (lvl0 : Nat → Int32) (tr : Int32) (pl : Nat → Int32) (rr t s on : Nat) (hrr : rr < 6) (ht : t < 8) (hs9 : s ≤ 80) (hsz : sz (mIx t) = nI s) (hop : op (mIx rr) = nI on) (hon : on ≤ 3) (hcs : ∀ i, i < 18 → cs (mIx i) = nI (cN i)) (hcN : ∀ i, i < 18 → cN i ≤ 6) (eT : T = mLvT mk rr on 0 0) (eA : lvl = mLvA mk rr on 0 0 lvl0) (eN : lN = mLvN mk rr on 0 0 (fun _ => 0)) : E0_Md_holdsOn l D cA [.ref 199, .int (nI rr), .int (nI t)] [(199, cMd th ls n ck ru tr al), (214, cIs 8 sz), (215, cIs 640 tx), (222, cIs 6 op), (223, cIs 18 cs), (224, cIs 108 ct), (225, cIs 18 mk), (226, cIs 18 lst), (227, cIs 18 spn), (229, cIs 3 lvl0), (230, cIs 3 pl)] (some (.int (if (mHo ct tx mk lst spn cs cN lN T t s rr on pl).1 then 1 else 0))) [(199, cMd th ls n ck ru (nI T) al), (214, cIs 8 sz), (215, cIs 640 tx), (222, cIs 6 op), (223, cIs 18 cs), (224, cIs 108 ct), (225, cIs 18 mk), (226, cIs 18 lst), (227, cIs 18 spn), (229, cIs 3 lvl), (230, cIs 3 (mHo ct tx mk lst spn cs cN lN T t s rr on pl).2)] := by
  refine mj_ev (lv := [(0, .ref 199), (1, .int (nI rr)), (2, .int (nI t))]) (by decide +kernel) (Nat.le_of_ble_eq_true rfl) rfl (fun X h => ?_)
  refine mj_blk h.1 b_Md_holdsOn_0 rfl trivial ?_
  have hok := mLv_ok mk rr hrr on 0 0 lvl0 (fun _ => 0) (by omega) (fun j hj => absurd hj (Nat.not_lt_zero j))
  rw [← eT, ← eA, ← eN] at hok
  have hT : T ≤ 3 := by have := hok.1; omega
  have hl : ∀ i, i < T → lvl i = nI (lN i) := fun i hi => (hok.2 i hi).1
  have hl2 : ∀ i, i < T → lN i < 18 := fun i hi => (hok.2 i hi).2
  refine lp_Md_holdsOn_f l D cA th ls n ck ru al sz tx op cs ct mk lst spn h rr t on hrr hop hon pl on 0 0 lvl0 (by omega) (by omega) (fun i9 => ?_)
  rw [← eT, ← eA]
  refine mj_blk h.1 b_Md_holdsOn_62 rfl trivial ?_
  first | refine mj_ifneB h.1 (tgt := 93) d_Md_holdsOn_66 (by decide) (fun h1 => ?_) (fun h1 => ?_) | refine mj_ifne h.1 (tgt := 93) d_Md_holdsOn_66 (by decide) (fun h1 => ?_) (fun h1 => ?_)
  · refine mj_blk h.1 b_Md_holdsOn_93 rfl ⟨vp_in_nI (n := 0) (by decide) (by decide), trivial⟩ ?_
    have hT0 : ¬ T = 0 := fun z9 => h1 (by rw [z9]; rfl)
    obtain ⟨d, hd⟩ : ∃ d, T = d + 1 := ⟨T - 1, by omega⟩
    have eH : (mHo ct tx mk lst spn cs cN lN T t s rr on pl) = (mSr (mFk ct tx mk lst spn cs cN lN t s) (mCk ct tx mk lst spn cs cN lN T t s rr on) s (d + 1) 0 pl) := by
      unfold mHo
      rw [if_neg hT0, hd]
    refine lp_Md_holdsOn_d l D cA th ls n ck ru al sz tx op cs ct mk lst spn h cN lN T hT lvl hl hl2 rr t s on hrr ht hs9 hsz hop hon hcs hcN d 0 pl (by omega) (fun hf => ?_) (fun hf => ?_)
    · refine mj_blk h.1 b_Md_holdsOn_102 rfl trivial ?_
      refine mj_iflt h.1 (tgt := 202) d_Md_holdsOn_103 (by decide) (fun hL => ?_) (fun hL => ?_)
      · refine mj_blk h.1 b_Md_holdsOn_202 rfl trivial ?_
        exact mj_zret h rfl (Or.inl rfl) d_Md_holdsOn_203 (by decide) (by decide) ⟨by rw [eH, hf]; rfl, by rw [eH]⟩
      · exact absurd (by decide) hL
    · exact ⟨by rw [eH, hf]; rfl, by rw [eH]⟩
  · refine mj_blk h.1 b_Md_holdsOn_69 rfl ⟨vp_in_nI (by omega) (by decide), trivial⟩ ?_
    rw [hop]
    refine mj_ifle h.1 (tgt := 91) d_Md_holdsOn_75 (by decide) (fun h2 => ?_) (fun h2 => ?_)
    · refine mj_blk h.1 b_Md_holdsOn_91 rfl trivial ?_
      exact mj_zret h rfl (by first | exact Or.inl rfl | exact Or.inr rfl) d_Md_holdsOn_92 (by decide) (by decide) ⟨by rw [(mHo_a ct tx mk lst spn cs cN lN T t s rr on pl ((nI_eq (b := 0) (by omega) (by decide)).mp (show nI T = nI 0 from h1)) (by have h9 := (nI_leI (a := on) (b := 0) (by omega) (by decide)).mp h2; omega))]; rfl, by rw [(mHo_a ct tx mk lst spn cs cN lN T t s rr on pl ((nI_eq (b := 0) (by omega) (by decide)).mp (show nI T = nI 0 from h1)) (by have h9 := (nI_leI (a := on) (b := 0) (by omega) (by decide)).mp h2; omega))]⟩
    · refine mj_blk h.1 b_Md_holdsOn_78 rfl trivial ?_
      refine mj_callV h zGood (ev_Md_clean l D cA _ _ _ _ _ T _ sz tx op cs ct mk lst spn lvl pl cN lN hT hl hl2 rr t s on hrr ht hs9 hsz hop hon hcs hcN) v_Md_clean l_Md_holdsOn_81 d_Md_holdsOn_81 rfl ⟨by decide, by decide⟩ ⟨by decide, by decide⟩ [] rfl rfl rfl rfl rfl rfl (Nat.le_of_ble_eq_true rfl) ?_
      rintro _ _ ⟨rfl, rfl⟩
      refine mj_k rfl rfl ?_
      first | refine mj_ifeqB h.1 (tgt := 91) d_Md_holdsOn_84 (by decide) (fun h3 => ?_) (fun h3 => ?_) | refine mj_ifeq h.1 (tgt := 91) d_Md_holdsOn_84 (by decide) (fun h3 => ?_) (fun h3 => ?_)
      · refine mj_blk h.1 b_Md_holdsOn_91 rfl trivial ?_
        exact mj_zret h rfl (by first | exact Or.inl rfl | exact Or.inr rfl) d_Md_holdsOn_92 (by decide) (by decide) ⟨by rw [(mHo_b ct tx mk lst spn cs cN lN T t s rr on pl ((nI_eq (b := 0) (by omega) (by decide)).mp (show nI T = nI 0 from h1)) (fun z9 => h2 (by rw [z9]; exact Int32.le_refl _)))]; exact congrArg (fun x => some (Value.int x)) (if_neg h3).symm, by rw [(mHo_b ct tx mk lst spn cs cN lN T t s rr on pl ((nI_eq (b := 0) (by omega) (by decide)).mp (show nI T = nI 0 from h1)) (fun z9 => h2 (by rw [z9]; exact Int32.le_refl _)))]⟩
      · refine mj_blk h.1 b_Md_holdsOn_87 rfl trivial ?_
        exact mj_zret h rfl (by first | exact Or.inl rfl | exact Or.inr rfl) d_Md_holdsOn_92 (by decide) (by decide) ⟨by rw [(mHo_b ct tx mk lst spn cs cN lN T t s rr on pl ((nI_eq (b := 0) (by omega) (by decide)).mp (show nI T = nI 0 from h1)) (fun z9 => h2 (by rw [z9]; exact Int32.le_refl _)))]; exact congrArg (fun x => some (Value.int x)) (if_pos h3).symm, by rw [(mHo_b ct tx mk lst spn cs cN lN T t s rr on pl ((nI_eq (b := 0) (by omega) (by decide)).mp (show nI T = nI 0 from h1)) (fun z9 => h2 (by rw [z9]; exact Int32.le_refl _)))]⟩
end MODL
