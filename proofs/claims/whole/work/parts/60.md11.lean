/-! The reference: clean (by program: wip/whole/src_md11.py) -/
def mKk (lN : Nat → Nat) (x : Nat) : Nat → Nat → Nat
  | 0, k => k
  | r + 1, k => if lN k < x then mKk lN x r (k + 1) else k
def mAny (F : Nat → Bool) : Nat → Nat → Bool
  | 0, _ => false
  | r + 1, p => F p || mAny F r (p + 1)
theorem mKk_le (lN : Nat → Nat) (x : Nat) : ∀ r k, mKk lN x r k ≤ k + r := by
  intro r
  induction r with
  | zero => intro k; exact Nat.le_refl _
  | succ r ih =>
    intro k
    unfold mKk
    split
    · have := ih (k + 1); omega
    · omega
/-- does option x, that must not stand there, stand nowhere from its base on -/
def mFree (ct tx mk lst spn cs pl : Nat → Int32) (cN lN : Nat → Nat) (T t s x : Nat) : Bool :=
  !mAny (fun p => mFd ct tx mk lst spn x t p (cN x) s (mBs mk cs pl lN x (mKk lN x T 0))) s 0
def mCl (ct tx mk lst spn cs pl : Nat → Int32) (cN lN : Nat → Nat) (T t s rr : Nat) : Nat → Nat → Bool
  | 0, _ => true
  | r + 1, i => if mk (3 * rr + i) &&& 2 = 2 then mFree ct tx mk lst spn cs pl cN lN T t s (3 * rr + i) && mCl ct tx mk lst spn cs pl cN lN T t s rr r (i + 1) else mCl ct tx mk lst spn cs pl cN lN T t s rr r (i + 1)
section MODK
variable (l : Launch) (D : va_G) (cA : Nat → ClassId) (th : Int32) (ls : Bool) (n : Nat) (ck : Int32) (ru : Nat) (T : Nat) (al : Int32) (sz tx op cs ct mk lst spn lvl pl : Nat → Int32)

set_option maxRecDepth 100000 in
set_option maxHeartbeats 8000000 in
theorem lp_Md_clean_k {X : mj_X} {post : mj_R} (h : mj_E zG X l D cA m_Md_clean 2 80 0 0 (fun _ => True) post) (rr t i x : Nat) (hx : x < 18) (lN : Nat → Nat) (hT : T ≤ 3) (hl : ∀ i, i < T → lvl i = nI (lN i)) (hl2 : ∀ i, i < T → lN i < 18) : ∀ (r k : Nat), k + r = T → mj_W zG X 0 0 62 [(5, .int (nI (mKk lN x r k))), (4, .int (nI x)), (3, .int (nI i)), (0, .ref 199), (1, .int (nI rr)), (2, .int (nI t))] [] [(199, cMd th ls n ck ru (nI T) al), (214, cIs 8 sz), (215, cIs 640 tx), (222, cIs 6 op), (223, cIs 18 cs), (224, cIs 108 ct), (225, cIs 18 mk), (226, cIs 18 lst), (227, cIs 18 spn), (229, cIs 3 lvl), (230, cIs 3 pl)] → mj_W zG X 0 0 35 [(5, .int (nI k)), (4, .int (nI x)), (3, .int (nI i)), (0, .ref 199), (1, .int (nI rr)), (2, .int (nI t))] [] [(199, cMd th ls n ck ru (nI T) al), (214, cIs 8 sz), (215, cIs 640 tx), (222, cIs 6 op), (223, cIs 18 cs), (224, cIs 108 ct), (225, cIs 18 mk), (226, cIs 18 lst), (227, cIs 18 spn), (229, cIs 3 lvl), (230, cIs 3 pl)] := by
  intro r
  induction r with
  | zero =>
    intro k hk K
    refine mj_blk h.1 b_Md_clean_35 rfl trivial ?_
    refine mj_icge h.1 (tgt := 62) d_Md_clean_41 (by decide) (fun h1 => ?_) (fun h1 => ?_)
    · exact K
    · exact absurd (nI_le (by omega) (by omega)) h1
  | succ r ih =>
    intro k hk K
    refine mj_blk h.1 b_Md_clean_35 rfl trivial ?_
    refine mj_icge h.1 (tgt := 62) d_Md_clean_41 (by decide) (fun h1 => ?_) (fun h1 => ?_)
    · exact absurd ((nI_leI (by omega) (by omega)).mp h1) (by omega)
    · refine mj_blk h.1 b_Md_clean_44 rfl ⟨vp_in_nI (by omega) (by decide), trivial⟩ ?_
      rw [nI_clamp (by omega), hl k (by omega)]
      refine mj_icge h.1 (tgt := 62) d_Md_clean_53 (by decide) (fun h2 => ?_) (fun h2 => ?_)
      · have e : mKk lN x (r + 1) k = k := by
          unfold mKk
          rw [if_neg (fun z => absurd ((nI_leI (by have := hl2 k (by omega); omega) (by omega)).mp h2) (by omega))]
        rw [e] at K
        exact K
      · refine mj_blk h.1 b_Md_clean_56 rfl trivial ?_
        have e : mKk lN x (r + 1) k = mKk lN x r (k + 1) := by
          conv => lhs; unfold mKk
          rw [if_pos (Nat.lt_of_not_le (fun z => h2 (nI_le z (by have := hl2 k (by omega); omega))))]
        rw [e] at K
        rw [show nI k + 1 = nI (k + 1) from (nI_succ k).symm]
        exact ih (k + 1) (by omega) K
set_option maxRecDepth 100000 in
set_option maxHeartbeats 8000000 in
theorem lp_Md_clean_p {X : mj_X} {post : mj_R} (h : mj_E zG X l D cA m_Md_clean 2 80 0 0 (fun _ => True) post) (rr i x t k c s : Nat) (hx : x < 18) (ht : t < 8) (hc : c ≤ 6) (hs9 : s ≤ 80) (hcs : cs (mIx x) = nI c) (hsz : sz (mIx t) = nI s) (b : Int32) : ∀ (r p : Nat), p + r = s → (mAny (fun p => mFd ct tx mk lst spn x t p c s b) r p = false → ∀ p9 : Nat, mj_W zG X 0 0 108 [(7, .int (nI p9)), (6, .int b), (5, .int (nI k)), (4, .int (nI x)), (3, .int (nI i)), (0, .ref 199), (1, .int (nI rr)), (2, .int (nI t))] [] [(199, cMd th ls n ck ru (nI T) al), (214, cIs 8 sz), (215, cIs 640 tx), (222, cIs 6 op), (223, cIs 18 cs), (224, cIs 108 ct), (225, cIs 18 mk), (226, cIs 18 lst), (227, cIs 18 spn), (229, cIs 3 lvl), (230, cIs 3 pl)]) → (mAny (fun p => mFd ct tx mk lst spn x t p c s b) r p = true → post (some (.int 0)) [(199, cMd th ls n ck ru (nI T) al), (214, cIs 8 sz), (215, cIs 640 tx), (222, cIs 6 op), (223, cIs 18 cs), (224, cIs 108 ct), (225, cIs 18 mk), (226, cIs 18 lst), (227, cIs 18 spn), (229, cIs 3 lvl), (230, cIs 3 pl)]) → mj_W zG X 0 0 75 [(7, .int (nI p)), (6, .int b), (5, .int (nI k)), (4, .int (nI x)), (3, .int (nI i)), (0, .ref 199), (1, .int (nI rr)), (2, .int (nI t))] [] [(199, cMd th ls n ck ru (nI T) al), (214, cIs 8 sz), (215, cIs 640 tx), (222, cIs 6 op), (223, cIs 18 cs), (224, cIs 108 ct), (225, cIs 18 mk), (226, cIs 18 lst), (227, cIs 18 spn), (229, cIs 3 lvl), (230, cIs 3 pl)] := by
  intro r
  induction r with
  | zero =>
    intro p hk K hp
    refine mj_blk h.1 b_Md_clean_75 rfl ⟨vp_in_nI (by omega) (by decide), trivial⟩ ?_
    rw [hsz]
    refine mj_icge h.1 (tgt := 108) d_Md_clean_83 (by decide) (fun h1 => ?_) (fun h1 => ?_)
    · exact K rfl p
    · exact absurd (nI_le (by omega) (by omega)) h1
  | succ r ih =>
    intro p hk K hp
    refine mj_blk h.1 b_Md_clean_75 rfl ⟨vp_in_nI (by omega) (by decide), trivial⟩ ?_
    rw [hsz]
    refine mj_icge h.1 (tgt := 108) d_Md_clean_83 (by decide) (fun h1 => ?_) (fun h1 => ?_)
    · exact absurd ((nI_leI (by omega) (by omega)).mp h1) (by omega)
    · refine mj_blk h.1 b_Md_clean_86 rfl trivial ?_
      refine mj_callV h zGood (ev_Md_found l D cA _ _ _ _ _ _ _ sz tx cs ct mk lst spn x t p c s hx ht hc hs9 hcs hsz (by omega) b) v_Md_found l_Md_clean_94 d_Md_clean_94 rfl ⟨by decide, by decide⟩ ⟨by decide, by decide⟩ [] rfl rfl rfl rfl rfl rfl (Nat.le_of_ble_eq_true rfl) ?_
      rintro _ _ ⟨rfl, rfl⟩
      refine mj_k rfl rfl ?_
      first | refine mj_ifeqB h.1 (tgt := 102) d_Md_clean_97 (by decide) (fun h2 => ?_) (fun h2 => ?_) | refine mj_ifeq h.1 (tgt := 102) d_Md_clean_97 (by decide) (fun h2 => ?_) (fun h2 => ?_)
      · refine mj_blk h.1 b_Md_clean_102 rfl trivial ?_
        rw [show nI p + 1 = nI (p + 1) from (nI_succ p).symm]
        have e : mAny (fun p => mFd ct tx mk lst spn x t p c s b) (r + 1) p = mAny (fun p => mFd ct tx mk lst spn x t p c s b) r (p + 1) := by
          conv => lhs; unfold mAny
          rw [Bool.eq_false_iff.mpr h2, Bool.false_or]
        rw [e] at K hp
        exact ih (p + 1) (by omega) K hp
      · refine mj_blk h.1 b_Md_clean_100 rfl trivial ?_
        exact mj_zret h rfl (Or.inl rfl) d_Md_clean_101 (by decide) (by decide) (hp (by unfold mAny; rw [h2, Bool.true_or]))
set_option maxRecDepth 100000 in
set_option maxHeartbeats 8000000 in
theorem lp_Md_clean {X : mj_X} {post : mj_R} (h : mj_E zG X l D cA m_Md_clean 2 80 0 0 (fun _ => True) post) (cN lN : Nat → Nat) (hT : T ≤ 3) (hl : ∀ i, i < T → lvl i = nI (lN i)) (hl2 : ∀ i, i < T → lN i < 18) (rr t s on : Nat) (hrr : rr < 6) (ht : t < 8) (hs9 : s ≤ 80) (hsz : sz (mIx t) = nI s) (hop : op (mIx rr) = nI on) (hon : on ≤ 3) (hcs : ∀ i, i < 18 → cs (mIx i) = nI (cN i)) (hcN : ∀ i, i < 18 → cN i ≤ 6) : ∀ (r i : Nat), i + r = on → post (some (.int (if mCl ct tx mk lst spn cs pl cN lN T t s rr r i then 1 else 0))) [(199, cMd th ls n ck ru (nI T) al), (214, cIs 8 sz), (215, cIs 640 tx), (222, cIs 6 op), (223, cIs 18 cs), (224, cIs 108 ct), (225, cIs 18 mk), (226, cIs 18 lst), (227, cIs 18 spn), (229, cIs 3 lvl), (230, cIs 3 pl)] → mj_W zG X 0 0 2 [(3, .int (nI i)), (0, .ref 199), (1, .int (nI rr)), (2, .int (nI t))] [] [(199, cMd th ls n ck ru (nI T) al), (214, cIs 8 sz), (215, cIs 640 tx), (222, cIs 6 op), (223, cIs 18 cs), (224, cIs 108 ct), (225, cIs 18 mk), (226, cIs 18 lst), (227, cIs 18 spn), (229, cIs 3 lvl), (230, cIs 3 pl)] := by
  intro r
  induction r with
  | zero =>
    intro i hk hp
    refine mj_blk h.1 b_Md_clean_2 rfl ⟨vp_in_nI (by omega) (by decide), trivial⟩ ?_
    rw [hop]
    refine mj_icge h.1 (tgt := 114) d_Md_clean_9 (by decide) (fun h1 => ?_) (fun h1 => ?_)
    · refine mj_blk h.1 b_Md_clean_114 rfl trivial ?_
      exact mj_zret h rfl (Or.inr rfl) d_Md_clean_115 (by decide) (by decide) hp
    · exact absurd (nI_le (by omega) (by omega)) h1
  | succ r ih =>
    intro i hk hp
    refine mj_blk h.1 b_Md_clean_2 rfl ⟨vp_in_nI (by omega) (by decide), trivial⟩ ?_
    rw [hop]
    refine mj_icge h.1 (tgt := 114) d_Md_clean_9 (by decide) (fun h1 => ?_) (fun h1 => ?_)
    · exact absurd ((nI_leI (by omega) (by omega)).mp h1) (by omega)
    · refine mj_blk h.1 b_Md_clean_12 rfl ⟨by rw [m3]; exact vp_in_nI (by omega) (by decide), trivial⟩ ?_
      rw [m3, nI_clamp (by omega)]
      refine mj_icne h.1 (tgt := 108) d_Md_clean_29 (by decide) (fun h2 => ?_) (fun h2 => ?_)
      · refine mj_blk h.1 b_Md_clean_108 rfl trivial ?_
        refine mj_lpk [0, 2, 3, 4] rfl ?_
        rw [show nI i + 1 = nI (i + 1) from (nI_succ i).symm]
        refine ih (i + 1) (by omega) ?_
        have hp2 := hp
        unfold mCl at hp2
        rw [if_neg h2] at hp2
        exact hp2
      · refine mj_blk h.1 b_Md_clean_32 rfl trivial ?_
        have hm2 := h2
        refine lp_Md_clean_k l D cA th ls n ck ru T al sz tx op cs ct mk lst spn lvl pl h rr t i (3 * rr + i) (by omega) lN hT hl hl2 T 0 (by omega) ?_
        refine mj_blk h.1 b_Md_clean_62 rfl trivial ?_
        refine mj_callV h zGood (ev_Md_base l D cA _ _ _ _ _ _ _ cs mk lvl pl lN (3 * rr + i) (mKk lN (3 * rr + i) T 0) (by omega) (by have := mKk_le lN (3 * rr + i) T 0; omega) (fun j hj => hl j (by have := mKk_le lN (3 * rr + i) T 0; omega)) (fun j hj => hl2 j (by have := mKk_le lN (3 * rr + i) T 0; omega))) v_Md_base l_Md_clean_67 d_Md_clean_67 rfl ⟨by decide, by decide⟩ ⟨by decide, by decide⟩ [] rfl rfl rfl rfl rfl rfl (Nat.le_of_ble_eq_true rfl) ?_
        rintro _ _ ⟨rfl, rfl⟩
        refine mj_k rfl rfl ?_
        refine mj_blk h.1 b_Md_clean_70 rfl trivial ?_
        refine lp_Md_clean_p l D cA th ls n ck ru T al sz tx op cs ct mk lst spn lvl pl h rr i (3 * rr + i) t _ (cN (3 * rr + i)) s (by omega) ht (hcN _ (by omega)) hs9 (hcs _ (by omega)) hsz _ s 0 (by omega) (fun hA p9 => ?_) (fun hA => ?_)
        · refine mj_blk h.1 b_Md_clean_108 rfl trivial ?_
          refine mj_lpk [0, 5, 6, 7] rfl ?_
          rw [show nI i + 1 = nI (i + 1) from (nI_succ i).symm]
          refine ih (i + 1) (by omega) ?_
          have hp2 := hp
          unfold mCl at hp2
          rw [if_pos hm2, show mFree ct tx mk lst spn cs pl cN lN T t s (3 * rr + i) = true by unfold mFree; rw [hA]; rfl, Bool.true_and] at hp2
          exact hp2
        · have hp2 := hp
          unfold mCl at hp2
          rw [if_pos hm2, show mFree ct tx mk lst spn cs pl cN lN T t s (3 * rr + i) = false by unfold mFree; rw [hA]; rfl, Bool.false_and] at hp2
          exact hp2
set_option maxRecDepth 100000 in
set_option maxHeartbeats 4000000 in
theorem ev_Md_clean (cN lN : Nat → Nat) (hT : T ≤ 3) (hl : ∀ i, i < T → lvl i = nI (lN i)) (hl2 : ∀ i, i < T → lN i < 18) (rr t s on : Nat) (hrr : rr < 6) (ht : t < 8) (hs9 : s ≤ 80) (hsz : sz (mIx t) = nI s) (hop : op (mIx rr) = nI on) (hon : on ≤ 3) (hcs : ∀ i, i < 18 → cs (mIx i) = nI (cN i)) (hcN : ∀ i, i < 18 → cN i ≤ 6) : E0_Md_clean l D cA [.ref 199, .int (nI rr), .int (nI t)] [(199, cMd th ls n ck ru (nI T) al), (214, cIs 8 sz), (215, cIs 640 tx), (222, cIs 6 op), (223, cIs 18 cs), (224, cIs 108 ct), (225, cIs 18 mk), (226, cIs 18 lst), (227, cIs 18 spn), (229, cIs 3 lvl), (230, cIs 3 pl)] (some (.int (if mCl ct tx mk lst spn cs pl cN lN T t s rr on 0 then 1 else 0))) [(199, cMd th ls n ck ru (nI T) al), (214, cIs 8 sz), (215, cIs 640 tx), (222, cIs 6 op), (223, cIs 18 cs), (224, cIs 108 ct), (225, cIs 18 mk), (226, cIs 18 lst), (227, cIs 18 spn), (229, cIs 3 lvl), (230, cIs 3 pl)] := by
  refine mj_ev (lv := [(0, .ref 199), (1, .int (nI rr)), (2, .int (nI t))]) (by decide +kernel) (Nat.le_of_ble_eq_true rfl) rfl (fun X h => ?_)
  refine mj_blk h.1 b_Md_clean_0 rfl trivial ?_
  exact lp_Md_clean l D cA th ls n ck ru T al sz tx op cs ct mk lst spn lvl pl h cN lN hT hl hl2 rr t s on hrr ht hs9 hsz hop hon hcs hcN on 0 (by omega) ⟨rfl, rfl⟩
end MODK
