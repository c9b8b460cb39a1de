/-! The reference: look (by program: wip/whole/src_md13.py) -/
def mSh : Nat → (Nat → Int32) → (Nat → Int32)
  | 0, g => g
  | r + 1, g => mSh r (upd g (r + 4) (g r))
def mAt (g : Nat → Int32) (a b c d : Int32) : Nat → Int32 := upd (upd (upd (upd (mSh 92 g) 0 a) 1 b) 2 c) 3 d
/-- what look alters: the count, tried, alerts; raised, level, place, alert -/
abbrev mS : Type := Int32 × Int32 × Int32 × (Nat → Int32) × (Nat → Int32) × (Nat → Int32) × (Nat → Int32)
abbrev mS.c (S : mS) : Int32 := S.1
abbrev mS.tr (S : mS) : Int32 := S.2.1
abbrev mS.al (S : mS) : Int32 := S.2.2.1
abbrev mS.ra (S : mS) : Nat → Int32 := S.2.2.2.1
abbrev mS.lv (S : mS) : Nat → Int32 := S.2.2.2.2.1
abbrev mS.pl (S : mS) : Nat → Int32 := S.2.2.2.2.2.1
abbrev mS.at' (S : mS) : Nat → Int32 := S.2.2.2.2.2.2
/-- what it reads: ports of the clients and servers, sizes, texts, rules, options -/
abbrev mR : Type := (Nat → Int32) × (Nat → Int32) × (Nat → Int32) × (Nat → Int32) × (Nat → Int32) × (Nat → Int32) × (Nat → Int32) × (Nat → Int32) × (Nat → Int32) × (Nat → Int32) × (Nat → Int32) × (Nat → Int32) × (Nat → Nat) × (Nat → Nat)
abbrev mR.cp (S : mR) : Nat → Int32 := S.1
abbrev mR.sp (S : mR) : Nat → Int32 := S.2.1
abbrev mR.sz (S : mR) : Nat → Int32 := S.2.2.1
abbrev mR.tx (S : mR) : Nat → Int32 := S.2.2.2.1
abbrev mR.rw9 (S : mR) : Nat → Int32 := S.2.2.2.2.1
abbrev mR.rp (S : mR) : Nat → Int32 := S.2.2.2.2.2.1
abbrev mR.op (S : mR) : Nat → Int32 := S.2.2.2.2.2.2.1
abbrev mR.cs (S : mR) : Nat → Int32 := S.2.2.2.2.2.2.2.1
abbrev mR.ct (S : mR) : Nat → Int32 := S.2.2.2.2.2.2.2.2.1
abbrev mR.mk' (S : mR) : Nat → Int32 := S.2.2.2.2.2.2.2.2.2.1
abbrev mR.lst (S : mR) : Nat → Int32 := S.2.2.2.2.2.2.2.2.2.2.1
abbrev mR.spn (S : mR) : Nat → Int32 := S.2.2.2.2.2.2.2.2.2.2.2.1
abbrev mR.cN (S : mR) : Nat → Nat := S.2.2.2.2.2.2.2.2.2.2.2.2.1
abbrev mR.oN (S : mR) : Nat → Nat := S.2.2.2.2.2.2.2.2.2.2.2.2.2
abbrev mR.T (R : mR) (rr : Nat) : Nat := mLvT R.mk' rr (R.oN rr) 0 0
abbrev mR.N (R : mR) (rr : Nat) : Nat → Nat := mLvN R.mk' rr (R.oN rr) 0 0 (fun _ => 0)
abbrev mR.ho (R : mR) (t s rr : Nat) (pl : Nat → Int32) : Bool × (Nat → Int32) := mHo R.ct R.tx R.mk' R.lst R.spn R.cs R.cN (R.N rr) (R.T rr) t s rr (R.oN rr) pl
def mLs (R : mR) (t s rr : Nat) (S : mS) : mS :=
  if S.ra (6 * t + rr) = 0 then
    if (R.ho t s rr S.pl).1 = true then ⟨S.c + 1, nI (R.T rr), S.al + 1, upd S.ra (6 * t + rr) 1, mLvA R.mk' rr (R.oN rr) 0 0 S.lv, (R.ho t s rr S.pl).2, mAt S.at' (nI rr) (R.cp (t / 2)) (nI (t % 2)) (nI s)⟩
    else ⟨S.c, nI (R.T rr), S.al, S.ra, mLvA R.mk' rr (R.oN rr) 0 0 S.lv, (R.ho t s rr S.pl).2, S.at'⟩
  else S
abbrev mAp (R : mR) (t rr : Nat) : Prop := (R.rw9 rr = 2 ∨ R.rw9 rr = nI (t % 2)) ∧ (R.rp rr = 0 ∨ R.rp rr = R.sp (t / 2))
def mLk (R : mR) (t s : Nat) : Nat → Nat → mS → mS
  | 0, _, S => S
  | r + 1, rr, S => mLk R t s r (rr + 1) (if mAp R t rr then mLs R t s rr S else S)
def mROk (R : mR) (t s ru : Nat) : Prop := t < 8 ∧ s ≤ 80 ∧ R.sz (mIx t) = nI s ∧ ru ≤ 6 ∧ (∀ i, i < ru → R.op (mIx i) = nI (R.oN i) ∧ R.oN i ≤ 3) ∧ (∀ i, i < 18 → R.cs (mIx i) = nI (R.cN i)) ∧ ∀ i, i < 18 → R.cN i ≤ 6
section MODM
variable (l : Launch) (D : va_G) (cA : Nat → ClassId) (th : Int32) (ls : Bool) (n : Nat) (ck : Int32) (ru : Nat) (R : mR) (t s : Nat)

set_option maxRecDepth 100000 in
set_option maxHeartbeats 8000000 in
theorem lp_Md_look_s {X : mj_X} {post : mj_R} (h : mj_E zG X l D cA m_Md_look 4 160 0 0 (fun _ => True) post) (S : mS) (rr : Nat) (ra : Nat → Int32) : ∀ (r : Nat) (g : Nat → Int32), r ≤ 92 → mj_W zG X 0 0 150 [(6, .int (nI 3)), (5, .int 1), (4, .int (nI rr)), (3, .int (nI (t / 2))), (2, .int S.c), (0, .ref 199), (1, .int (nI t))] [] [(199, cMd th ls n ck ru S.tr S.al), (206, cIs 4 R.cp), (208, cIs 4 R.sp), (214, cIs 8 R.sz), (215, cIs 640 R.tx), (218, cZs 48 ra), (220, cIs 6 R.rw9), (221, cIs 6 R.rp), (222, cIs 6 R.op), (223, cIs 18 R.cs), (224, cIs 108 R.ct), (225, cIs 18 R.mk'), (226, cIs 18 R.lst), (227, cIs 18 R.spn), (229, cIs 3 S.lv), (230, cIs 3 S.pl), (232, cIs 96 (mSh r g))] → mj_W zG X 0 0 122 [(6, .int (nI (r + 3))), (5, .int 1), (4, .int (nI rr)), (3, .int (nI (t / 2))), (2, .int S.c), (0, .ref 199), (1, .int (nI t))] [] [(199, cMd th ls n ck ru S.tr S.al), (206, cIs 4 R.cp), (208, cIs 4 R.sp), (214, cIs 8 R.sz), (215, cIs 640 R.tx), (218, cZs 48 ra), (220, cIs 6 R.rw9), (221, cIs 6 R.rp), (222, cIs 6 R.op), (223, cIs 18 R.cs), (224, cIs 108 R.ct), (225, cIs 18 R.mk'), (226, cIs 18 R.lst), (227, cIs 18 R.spn), (229, cIs 3 S.lv), (230, cIs 3 S.pl), (232, cIs 96 g)] := by
  intro r
  induction r with
  | zero =>
    intro g hr K
    refine mj_blk h.1 b_Md_look_122 rfl trivial ?_
    refine mj_iclt h.1 (tgt := 150) d_Md_look_125 (by decide) (fun h1 => ?_) (fun h1 => ?_)
    · exact K
    · exact absurd (by decide) h1
  | succ r ih =>
    intro g hr K
    refine mj_blk h.1 b_Md_look_122 rfl trivial ?_
    refine mj_iclt h.1 (tgt := 150) d_Md_look_125 (by decide) (fun h1 => ?_) (fun h1 => ?_)
    · exact absurd h1 (nI_nlt (b := 4) (by omega) (by omega))
    · refine mj_blk h.1 b_Md_look_128 rfl ⟨vp_in_nI (by omega) (by decide), by rw [show nI (r + 1 + 3) - 4 = nI r from pk_sub (a := r + 1 + 3) (b := 4) (by omega)]; exact vp_in_nI (by omega) (by decide), trivial⟩ ?_
      rw [show nI (r + 1 + 3) - 4 = nI r from pk_sub (a := r + 1 + 3) (b := 4) (by omega), nI_clamp (n := r) (by omega), nI_clamp (n := r + 1 + 3) (by omega), show nI (r + 1 + 3) + -1 = nI (r + 3) from pk_m1 (r + 3)]
      exact ih _ (by omega) K
theorem mRem' (t : Nat) (h : t < 8) : nI t - nI t / 2 * 2 = nI (t % 2) := pk_rem (by omega) (by decide) (by decide)
set_option maxRecDepth 100000 in
set_option maxHeartbeats 8000000 in
theorem lp_Md_look_x {X : mj_X} {post : mj_R} (h : mj_E zG X l D cA m_Md_look 4 160 0 0 (fun _ => True) post) (K0 : mROk R t s ru) (S : mS) (rr : Nat) (hrr : rr < 6) (hru : rr < ru) (K : mj_W zG X 0 0 204 [(4, .int (nI rr)), (3, .int (nI (t / 2))), (2, .int (mLs R t s rr S).c), (0, .ref 199), (1, .int (nI t))] [] [(199, cMd th ls n ck ru (mLs R t s rr S).tr (mLs R t s rr S).al), (206, cIs 4 R.cp), (208, cIs 4 R.sp), (214, cIs 8 R.sz), (215, cIs 640 R.tx), (218, cZs 48 (mLs R t s rr S).ra), (220, cIs 6 R.rw9), (221, cIs 6 R.rp), (222, cIs 6 R.op), (223, cIs 18 R.cs), (224, cIs 108 R.ct), (225, cIs 18 R.mk'), (226, cIs 18 R.lst), (227, cIs 18 R.spn), (229, cIs 3 (mLs R t s rr S).lv), (230, cIs 3 (mLs R t s rr S).pl), (232, cIs 96 (mLs R t s rr S).at')]) : mj_W zG X 0 0 80 [(5, .int 1), (4, .int (nI rr)), (3, .int (nI (t / 2))), (2, .int S.c), (0, .ref 199), (1, .int (nI t))] [] [(199, cMd th ls n ck ru S.tr S.al), (206, cIs 4 R.cp), (208, cIs 4 R.sp), (214, cIs 8 R.sz), (215, cIs 640 R.tx), (218, cZs 48 S.ra), (220, cIs 6 R.rw9), (221, cIs 6 R.rp), (222, cIs 6 R.op), (223, cIs 18 R.cs), (224, cIs 108 R.ct), (225, cIs 18 R.mk'), (226, cIs 18 R.lst), (227, cIs 18 R.spn), (229, cIs 3 S.lv), (230, cIs 3 S.pl), (232, cIs 96 S.at')] := by
  have ht8 := K0.1
  refine mj_blk h.1 b_Md_look_80 rfl ⟨by rw [m6]; exact vp_in_nI (by omega) (by decide), trivial⟩ ?_
  rw [m6, nI_clamp (n := 6 * t + rr) (by omega)]
  first | refine mj_ifneB h.1 (tgt := 204) d_Md_look_92 (by decide) (fun h1 => ?_) (fun h1 => ?_) | refine mj_ifne h.1 (tgt := 204) d_Md_look_92 (by decide) (fun h1 => ?_) (fun h1 => ?_)
  · refine mj_lpk [1, 2, 3, 4, 5] rfl ?_
    have e : mLs R t s rr S = S := by unfold mLs; rw [if_neg h1]
    rw [e] at K
    exact K
  · refine mj_blk h.1 b_Md_look_95 rfl trivial ?_
    refine mj_callV h zGood (ev_Md_holdsOn l D cA _ _ _ _ _ _ R.sz R.tx R.op R.cs R.ct R.mk' R.lst R.spn R.cN (R.N rr) (R.T rr) (mLvA R.mk' rr (R.oN rr) 0 0 S.lv) S.lv S.tr S.pl rr t s (R.oN rr) hrr K0.1 K0.2.1 K0.2.2.1 (K0.2.2.2.2.1 rr hru).1 (K0.2.2.2.2.1 rr hru).2 K0.2.2.2.2.2.1 K0.2.2.2.2.2.2 rfl rfl rfl) v_Md_holdsOn l_Md_look_99 d_Md_look_99 rfl ⟨by decide, by decide⟩ ⟨by decide, by decide⟩ [] rfl rfl rfl rfl rfl rfl (Nat.le_of_ble_eq_true rfl) ?_
    rintro _ _ ⟨rfl, rfl⟩
    refine mj_k rfl rfl ?_
    first | refine mj_ifeqB h.1 (tgt := 204) d_Md_look_102 (by decide) (fun h2 => ?_) (fun h2 => ?_) | refine mj_ifeq h.1 (tgt := 204) d_Md_look_102 (by decide) (fun h2 => ?_) (fun h2 => ?_)
    · refine mj_lpk [1, 2, 3, 4, 5] rfl ?_
      have e : mLs R t s rr S = ⟨S.c, nI (R.T rr), S.al, S.ra, mLvA R.mk' rr (R.oN rr) 0 0 S.lv, (R.ho t s rr S.pl).2, S.at'⟩ := by unfold mLs; rw [if_pos h1, if_neg h2]
      rw [e] at K
      exact K
    · refine mj_blk h.1 b_Md_look_105 rfl ⟨by rw [m6]; exact vp_in_nI (by omega) (by decide), Or.inr rfl, trivial⟩ ?_
      rw [m6]
      have e : mLs R t s rr S = ⟨S.c + 1, nI (R.T rr), S.al + 1, upd S.ra (6 * t + rr) 1, mLvA R.mk' rr (R.oN rr) 0 0 S.lv, (R.ho t s rr S.pl).2, mAt S.at' (nI rr) (R.cp (t / 2)) (nI (t % 2)) (nI s)⟩ := by unfold mLs; rw [if_pos h1, if_pos h2]
      rw [e] at K
      refine lp_Md_look_s l D cA th ls n ck ru R t h ⟨S.c, nI (R.T rr), S.al, S.ra, mLvA R.mk' rr (R.oN rr) 0 0 S.lv, (R.ho t s rr S.pl).2, S.at'⟩ rr _ 92 _ (by omega) ?_
      refine mj_blk h.1 b_Md_look_150 rfl ⟨vp_in_nI (n := 3) (by decide) (by decide), vp_in_nI (by omega) (by decide), vp_in_nI (n := 2) (by decide) (by decide), (by decide), vp_in_nI (n := 1) (by decide) (by decide), vp_in_nI (by omega) (by decide), vp_in_nI (n := 0) (by decide) (by decide), trivial⟩ ?_
      refine mj_lpk [3, 4, 0, 5, 6] rfl ?_
      rw [mRem' t (by omega), K0.2.2.1, nI_clamp (n := t / 2) (by omega), nI_clamp (n := 6 * t + rr) (by omega)]
      exact K
set_option maxRecDepth 100000 in
set_option maxHeartbeats 8000000 in
theorem lp_Md_look {X : mj_X} {post : mj_R} (h : mj_E zG X l D cA m_Md_look 4 160 0 0 (fun _ => True) post) (K0 : mROk R t s ru) : ∀ (r rr : Nat) (S : mS), rr + r = ru → post (some (.int (mLk R t s r rr S).c)) [(199, cMd th ls n ck ru (mLk R t s r rr S).tr (mLk R t s r rr S).al), (206, cIs 4 R.cp), (208, cIs 4 R.sp), (214, cIs 8 R.sz), (215, cIs 640 R.tx), (218, cZs 48 (mLk R t s r rr S).ra), (220, cIs 6 R.rw9), (221, cIs 6 R.rp), (222, cIs 6 R.op), (223, cIs 18 R.cs), (224, cIs 108 R.ct), (225, cIs 18 R.mk'), (226, cIs 18 R.lst), (227, cIs 18 R.spn), (229, cIs 3 (mLk R t s r rr S).lv), (230, cIs 3 (mLk R t s r rr S).pl), (232, cIs 96 (mLk R t s r rr S).at')] → mj_W zG X 0 0 9 [(4, .int (nI rr)), (3, .int (nI (t / 2))), (2, .int S.c), (0, .ref 199), (1, .int (nI t))] [] [(199, cMd th ls n ck ru S.tr S.al), (206, cIs 4 R.cp), (208, cIs 4 R.sp), (214, cIs 8 R.sz), (215, cIs 640 R.tx), (218, cZs 48 S.ra), (220, cIs 6 R.rw9), (221, cIs 6 R.rp), (222, cIs 6 R.op), (223, cIs 18 R.cs), (224, cIs 108 R.ct), (225, cIs 18 R.mk'), (226, cIs 18 R.lst), (227, cIs 18 R.spn), (229, cIs 3 S.lv), (230, cIs 3 S.pl), (232, cIs 96 S.at')] := by
  have ht8 := K0.1
  have hr6 := K0.2.2.2.1
  intro r
  induction r with
  | zero =>
    intro rr S hk hp
    refine mj_blk h.1 b_Md_look_9 rfl trivial ?_
    refine mj_icge h.1 (tgt := 210) d_Md_look_15 (by decide) (fun h1 => ?_) (fun h1 => ?_)
    · refine mj_blk h.1 b_Md_look_210 rfl trivial ?_
      exact mj_iret h rfl d_Md_look_211 (by decide) (by decide) hp
    · exact absurd (nI_le (by omega) (by omega)) h1
  | succ r ih =>
    intro rr S hk hp
    refine mj_blk h.1 b_Md_look_9 rfl trivial ?_
    refine mj_icge h.1 (tgt := 210) d_Md_look_15 (by decide) (fun h1 => ?_) (fun h1 => ?_)
    · exact absurd ((nI_leI (by omega) (by omega)).mp h1) (by omega)
    · refine mj_blk h.1 b_Md_look_18 rfl ⟨vp_in_nI (by omega) (by decide), trivial⟩ ?_
      rw [nI_clamp (n := rr) (by omega)]
      refine mj_iceq h.1 (tgt := 42) d_Md_look_26 (by decide) (fun h2 => ?_) (fun h2 => ?_)
      · refine mj_blk h.1 b_Md_look_42 rfl ⟨vp_in_nI (by omega) (by decide), trivial⟩ ?_
        rw [nI_clamp (n := rr) (by omega)]
        first | refine mj_ifeqB h.1 (tgt := 68) d_Md_look_49 (by decide) (fun h3 => ?_) (fun h3 => ?_) | refine mj_ifeq h.1 (tgt := 68) d_Md_look_49 (by decide) (fun h3 => ?_) (fun h3 => ?_)
        · refine mj_blk h.1 b_Md_look_68 rfl trivial ?_
          refine mj_blk h.1 b_Md_look_73 rfl trivial ?_
          refine mj_ifeq1 h.1 (tgt := 204) d_Md_look_77 (by decide) ?_
          have hap : mAp R t rr := ⟨Or.inl h2, Or.inl h3⟩
          refine lp_Md_look_x l D cA th ls n ck ru R t s h K0 S rr (by omega) (by omega) ?_
          refine mj_blk h.1 b_Md_look_204 rfl trivial ?_
          rw [show nI rr + 1 = nI (rr + 1) from (nI_succ rr).symm]
          refine ih (rr + 1) _ (by omega) ?_
          have hp2 := hp
          unfold mLk at hp2
          rw [if_pos hap] at hp2
          exact hp2
        · refine mj_blk h.1 b_Md_look_52 rfl ⟨vp_in_nI (by omega) (by decide), vp_in_nI (by omega) (by decide), trivial⟩ ?_
          rw [nI_clamp (n := rr) (by omega), nI_clamp (n := t / 2) (by omega)]
          refine mj_icne h.1 (tgt := 72) d_Md_look_65 (by decide) (fun h5 => ?_) (fun h5 => ?_)
          · refine mj_blk h.1 b_Md_look_72 rfl trivial ?_
            refine mj_blk h.1 b_Md_look_73 rfl trivial ?_
            refine mj_ifeq0 h.1 (tgt := 204) d_Md_look_77 (by decide) ?_
            refine mj_blk h.1 b_Md_look_204 rfl trivial ?_
            refine mj_lpk [0, 2, 3, 4, 5] rfl ?_
            rw [show nI rr + 1 = nI (rr + 1) from (nI_succ rr).symm]
            refine ih (rr + 1) _ (by omega) ?_
            have hp2 := hp
            unfold mLk at hp2
            rw [if_neg (show ¬ mAp R t rr from fun z => z.2.elim h3 h5)] at hp2
            exact hp2
          · refine mj_blk h.1 b_Md_look_68 rfl trivial ?_
            refine mj_blk h.1 b_Md_look_73 rfl trivial ?_
            refine mj_ifeq1 h.1 (tgt := 204) d_Md_look_77 (by decide) ?_
            have hap : mAp R t rr := ⟨Or.inl h2, Or.inr h5⟩
            refine lp_Md_look_x l D cA th ls n ck ru R t s h K0 S rr (by omega) (by omega) ?_
            refine mj_blk h.1 b_Md_look_204 rfl trivial ?_
            rw [show nI rr + 1 = nI (rr + 1) from (nI_succ rr).symm]
            refine ih (rr + 1) _ (by omega) ?_
            have hp2 := hp
            unfold mLk at hp2
            rw [if_pos hap] at hp2
            exact hp2
      · refine mj_blk h.1 b_Md_look_29 rfl ⟨(by decide), vp_in_nI (by omega) (by decide), trivial⟩ ?_
        rw [nI_clamp (n := rr) (by omega), mRem' t (by omega)]
        refine mj_icne h.1 (tgt := 72) d_Md_look_39 (by decide) (fun h8 => ?_) (fun h8 => ?_)
        · refine mj_blk h.1 b_Md_look_72 rfl trivial ?_
          refine mj_blk h.1 b_Md_look_73 rfl trivial ?_
          refine mj_ifeq0 h.1 (tgt := 204) d_Md_look_77 (by decide) ?_
          refine mj_blk h.1 b_Md_look_204 rfl trivial ?_
          refine mj_lpk [0, 2, 3, 4, 5] rfl ?_
          rw [show nI rr + 1 = nI (rr + 1) from (nI_succ rr).symm]
          refine ih (rr + 1) _ (by omega) ?_
          have hp2 := hp
          unfold mLk at hp2
          rw [if_neg (show ¬ mAp R t rr from fun z => z.1.elim h2 h8)] at hp2
          exact hp2
        · refine mj_blk h.1 b_Md_look_42 rfl ⟨vp_in_nI (by omega) (by decide), trivial⟩ ?_
          rw [nI_clamp (n := rr) (by omega)]
          first | refine mj_ifeqB h.1 (tgt := 68) d_Md_look_49 (by decide) (fun h10 => ?_) (fun h10 => ?_) | refine mj_ifeq h.1 (tgt := 68) d_Md_look_49 (by decide) (fun h10 => ?_) (fun h10 => ?_)
          · refine mj_blk h.1 b_Md_look_68 rfl trivial ?_
            refine mj_blk h.1 b_Md_look_73 rfl trivial ?_
            refine mj_ifeq1 h.1 (tgt := 204) d_Md_look_77 (by decide) ?_
            have hap : mAp R t rr := ⟨Or.inr h8, Or.inl h10⟩
            refine lp_Md_look_x l D cA th ls n ck ru R t s h K0 S rr (by omega) (by omega) ?_
            refine mj_blk h.1 b_Md_look_204 rfl trivial ?_
            rw [show nI rr + 1 = nI (rr + 1) from (nI_succ rr).symm]
            refine ih (rr + 1) _ (by omega) ?_
            have hp2 := hp
            unfold mLk at hp2
            rw [if_pos hap] at hp2
            exact hp2
          · refine mj_blk h.1 b_Md_look_52 rfl ⟨vp_in_nI (by omega) (by decide), vp_in_nI (by omega) (by decide), trivial⟩ ?_
            rw [nI_clamp (n := rr) (by omega), nI_clamp (n := t / 2) (by omega)]
            refine mj_icne h.1 (tgt := 72) d_Md_look_65 (by decide) (fun h12 => ?_) (fun h12 => ?_)
            · refine mj_blk h.1 b_Md_look_72 rfl trivial ?_
              refine mj_blk h.1 b_Md_look_73 rfl trivial ?_
              refine mj_ifeq0 h.1 (tgt := 204) d_Md_look_77 (by decide) ?_
              refine mj_blk h.1 b_Md_look_204 rfl trivial ?_
              refine mj_lpk [0, 2, 3, 4, 5] rfl ?_
              rw [show nI rr + 1 = nI (rr + 1) from (nI_succ rr).symm]
              refine ih (rr + 1) _ (by omega) ?_
              have hp2 := hp
              unfold mLk at hp2
              rw [if_neg (show ¬ mAp R t rr from fun z => z.2.elim h10 h12)] at hp2
              exact hp2
            · refine mj_blk h.1 b_Md_look_68 rfl trivial ?_
              refine mj_blk h.1 b_Md_look_73 rfl trivial ?_
              refine mj_ifeq1 h.1 (tgt := 204) d_Md_look_77 (by decide) ?_
              have hap : mAp R t rr := ⟨Or.inr h8, Or.inr h12⟩
              refine lp_Md_look_x l D cA th ls n ck ru R t s h K0 S rr (by omega) (by omega) ?_
              refine mj_blk h.1 b_Md_look_204 rfl trivial ?_
              rw [show nI rr + 1 = nI (rr + 1) from (nI_succ rr).symm]
              refine ih (rr + 1) _ (by omega) ?_
              have hp2 := hp
              unfold mLk at hp2
              rw [if_pos hap] at hp2
              exact hp2
theorem mDiv' (t : Nat) (h : t < 8) : nI t / 2 = nI (t / 2) := pk_div (by omega) (by decide) (by decide)
set_option maxRecDepth 100000 in
set_option maxHeartbeats 4000000 in
theorem ev_Md_look (K0 : mROk R t s ru) (S S' : mS) (h0 : S.c = 0) (e : S' = mLk R t s ru 0 S) : E0_Md_look l D cA [.ref 199, .int (nI t)] [(199, cMd th ls n ck ru S.tr S.al), (206, cIs 4 R.cp), (208, cIs 4 R.sp), (214, cIs 8 R.sz), (215, cIs 640 R.tx), (218, cZs 48 S.ra), (220, cIs 6 R.rw9), (221, cIs 6 R.rp), (222, cIs 6 R.op), (223, cIs 18 R.cs), (224, cIs 108 R.ct), (225, cIs 18 R.mk'), (226, cIs 18 R.lst), (227, cIs 18 R.spn), (229, cIs 3 S.lv), (230, cIs 3 S.pl), (232, cIs 96 S.at')] (some (.int S'.c)) [(199, cMd th ls n ck ru S'.tr S'.al), (206, cIs 4 R.cp), (208, cIs 4 R.sp), (214, cIs 8 R.sz), (215, cIs 640 R.tx), (218, cZs 48 S'.ra), (220, cIs 6 R.rw9), (221, cIs 6 R.rp), (222, cIs 6 R.op), (223, cIs 18 R.cs), (224, cIs 108 R.ct), (225, cIs 18 R.mk'), (226, cIs 18 R.lst), (227, cIs 18 R.spn), (229, cIs 3 S'.lv), (230, cIs 3 S'.pl), (232, cIs 96 S'.at')] := by
  refine mj_ev (lv := [(0, .ref 199), (1, .int (nI t))]) (by decide +kernel) (Nat.le_of_ble_eq_true rfl) rfl (fun X h => ?_)
  subst e
  refine mj_blk h.1 b_Md_look_0 rfl ⟨by decide, trivial⟩ ?_
  rw [mDiv' t K0.1]
  have q := lp_Md_look l D cA th ls n ck ru R t s h K0 ru 0 S (by omega) ⟨rfl, rfl⟩
  rw [h0] at q
  exact q
end MODM
