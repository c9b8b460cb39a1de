/-! The reference: rule, found (by program: wip/whole/src_md6.py) -/
theorem m6 (x k : Nat) : 6 * nI x + nI k = nI (6 * x + k) := by rw [show (6 : Int32) = nI 6 from rfl, pk_mul, nI_add]
theorem m80 (t p k : Nat) : 80 * nI t + nI p + nI k = nI (80 * t + p + k) := by rw [mY, nI_add]
def mSm (any : Bool) (ct tx : Nat → Int32) (x t p : Nat) : Nat → Nat → Bool
  | 0, _ => true
  | r + 1, k => decide (if any = true then mUp (ct (6 * x + k)) = mUp (tx (80 * t + p + k)) else ct (6 * x + k) = tx (80 * t + p + k)) && mSm any ct tx x t p r (k + 1)
def mFd (ct tx mk lst spn : Nat → Int32) (x t p c s : Nat) (b : Int32) : Bool :=
  if nI s < nI p + nI c then false else if nI p - b < lst (mIx x) then false else if spn (mIx x) ≤ 0 then mSm (decide (mk (mIx x) &&& 1 = 1)) ct tx x t p c 0
  else if nI p - b + nI c ≤ lst (mIx x) + spn (mIx x) then mSm (decide (mk (mIx x) &&& 1 = 1)) ct tx x t p c 0 else false
section MODF
variable (l : Launch) (D : va_G) (cA : Nat → ClassId) (th : Int32) (ls : Bool) (n : Nat) (ck : Int32) (ru : Nat) (tr al : Int32)

set_option maxRecDepth 100000 in
set_option maxHeartbeats 4000000 in
theorem ev_Md_rule1 (rw9 rp op : Nat → Int32) (w p : Int32) (hb : ¬ (¬ w < 0 ∧ ¬ 2 < w ∧ ¬ p < 0 ∧ p ≤ 65535)) : E0_Md_rule l D cA [.ref 199, .int w, .int p] [(199, cMd th ls n ck ru tr al), (220, cIs 6 rw9), (221, cIs 6 rp), (222, cIs 6 op)] (some (.int 0)) [(199, cMd 1 ls n ck ru tr al), (220, cIs 6 rw9), (221, cIs 6 rp), (222, cIs 6 op)] := by
  refine mj_ev (lv := [(0, .ref 199), (1, .int w), (2, .int p)]) (by decide +kernel) (Nat.le_of_ble_eq_true rfl) rfl (fun X h => ?_)
  refine mj_blk h.1 b_Md_rule_0 rfl trivial ?_
  refine mj_iflt h.1 (tgt := 20) d_Md_rule_2 (by decide) (fun h1 => ?_) (fun h1 => ?_)
  · refine mj_blk h.1 b_Md_rule_20 rfl trivial ?_
    refine mj_blk h.1 b_Md_rule_38 rfl trivial ?_
    refine mj_ifle h.1 (tgt := 50) d_Md_rule_45 (by decide) (fun h2 => ?_) (fun h2 => ?_)
    · exact absurd h2 (by decide)
    · refine mj_blk h.1 b_Md_rule_48 rfl trivial ?_
      exact mj_iret h rfl d_Md_rule_49 (by decide) (by decide) ⟨rfl, rfl⟩
  · refine mj_blk h.1 b_Md_rule_5 rfl trivial ?_
    refine mj_icgt h.1 (tgt := 20) d_Md_rule_7 (by decide) (fun h3 => ?_) (fun h3 => ?_)
    · refine mj_blk h.1 b_Md_rule_20 rfl trivial ?_
      refine mj_blk h.1 b_Md_rule_38 rfl trivial ?_
      refine mj_ifle h.1 (tgt := 50) d_Md_rule_45 (by decide) (fun h4 => ?_) (fun h4 => ?_)
      · exact absurd h4 (by decide)
      · refine mj_blk h.1 b_Md_rule_48 rfl trivial ?_
        exact mj_iret h rfl d_Md_rule_49 (by decide) (by decide) ⟨rfl, rfl⟩
    · refine mj_blk h.1 b_Md_rule_10 rfl trivial ?_
      refine mj_iflt h.1 (tgt := 20) d_Md_rule_11 (by decide) (fun h5 => ?_) (fun h5 => ?_)
      · refine mj_blk h.1 b_Md_rule_20 rfl trivial ?_
        refine mj_blk h.1 b_Md_rule_38 rfl trivial ?_
        refine mj_ifle h.1 (tgt := 50) d_Md_rule_45 (by decide) (fun h6 => ?_) (fun h6 => ?_)
        · exact absurd h6 (by decide)
        · refine mj_blk h.1 b_Md_rule_48 rfl trivial ?_
          exact mj_iret h rfl d_Md_rule_49 (by decide) (by decide) ⟨rfl, rfl⟩
      · refine mj_blk h.1 b_Md_rule_14 rfl trivial ?_
        refine mj_icle h.1 (tgt := 24) d_Md_rule_17 (by decide) (fun h7 => ?_) (fun h7 => ?_)
        · exact absurd ⟨h1, h3, h5, h7⟩ hb
        · refine mj_blk h.1 b_Md_rule_20 rfl trivial ?_
          refine mj_blk h.1 b_Md_rule_38 rfl trivial ?_
          refine mj_ifle h.1 (tgt := 50) d_Md_rule_45 (by decide) (fun h8 => ?_) (fun h8 => ?_)
          · exact absurd h8 (by decide)
          · refine mj_blk h.1 b_Md_rule_48 rfl trivial ?_
            exact mj_iret h rfl d_Md_rule_49 (by decide) (by decide) ⟨rfl, rfl⟩
set_option maxRecDepth 100000 in
set_option maxHeartbeats 4000000 in
theorem ev_Md_rule2 (rw9 rp op : Nat → Int32) (w p : Int32) (hg : (¬ w < 0 ∧ ¬ 2 < w ∧ ¬ p < 0 ∧ p ≤ 65535)) (h6 : ru = 6) : E0_Md_rule l D cA [.ref 199, .int w, .int p] [(199, cMd th ls n ck ru tr al), (220, cIs 6 rw9), (221, cIs 6 rp), (222, cIs 6 op)] (some (.int 0)) [(199, cMd 2 ls n ck ru tr al), (220, cIs 6 rw9), (221, cIs 6 rp), (222, cIs 6 op)] := by
  refine mj_ev (lv := [(0, .ref 199), (1, .int w), (2, .int p)]) (by decide +kernel) (Nat.le_of_ble_eq_true rfl) rfl (fun X h => ?_)
  refine mj_blk h.1 b_Md_rule_0 rfl trivial ?_
  refine mj_iflt h.1 (tgt := 20) d_Md_rule_2 (by decide) (fun h1 => ?_) (fun h1 => ?_)
  · exact absurd h1 hg.1
  · refine mj_blk h.1 b_Md_rule_5 rfl trivial ?_
    refine mj_icgt h.1 (tgt := 20) d_Md_rule_7 (by decide) (fun h2 => ?_) (fun h2 => ?_)
    · exact absurd h2 hg.2.1
    · refine mj_blk h.1 b_Md_rule_10 rfl trivial ?_
      refine mj_iflt h.1 (tgt := 20) d_Md_rule_11 (by decide) (fun h3 => ?_) (fun h3 => ?_)
      · exact absurd h3 hg.2.2.1
      · refine mj_blk h.1 b_Md_rule_14 rfl trivial ?_
        refine mj_icle h.1 (tgt := 24) d_Md_rule_17 (by decide) (fun h4 => ?_) (fun h4 => ?_)
        · refine mj_blk h.1 b_Md_rule_24 rfl trivial ?_
          refine mj_icne h.1 (tgt := 37) d_Md_rule_30 (by decide) (fun h5 => ?_) (fun h5 => ?_)
          · exact absurd (by rw [h6]; rfl) h5
          · refine mj_blk h.1 b_Md_rule_33 rfl trivial ?_
            refine mj_blk h.1 b_Md_rule_38 rfl trivial ?_
            refine mj_ifle h.1 (tgt := 50) d_Md_rule_45 (by decide) (fun h6 => ?_) (fun h6 => ?_)
            · exact absurd h6 (by decide)
            · refine mj_blk h.1 b_Md_rule_48 rfl trivial ?_
              exact mj_iret h rfl d_Md_rule_49 (by decide) (by decide) ⟨rfl, rfl⟩
        · exact absurd hg.2.2.2 h4
set_option maxRecDepth 100000 in
set_option maxHeartbeats 4000000 in
theorem ev_Md_rule0 (rw9 rp op : Nat → Int32) (w p : Int32) (hg : (¬ w < 0 ∧ ¬ 2 < w ∧ ¬ p < 0 ∧ p ≤ 65535)) (h6 : ru < 6) : E0_Md_rule l D cA [.ref 199, .int w, .int p] [(199, cMd th ls n ck ru tr al), (220, cIs 6 rw9), (221, cIs 6 rp), (222, cIs 6 op)] (some (.int (nI ru))) [(199, cMd 0 ls n ck (ru + 1) tr al), (220, cIs 6 (upd rw9 ru w)), (221, cIs 6 (upd rp ru p)), (222, cIs 6 (upd op ru 0))] := by
  refine mj_ev (lv := [(0, .ref 199), (1, .int w), (2, .int p)]) (by decide +kernel) (Nat.le_of_ble_eq_true rfl) rfl (fun X h => ?_)
  refine mj_blk h.1 b_Md_rule_0 rfl trivial ?_
  refine mj_iflt h.1 (tgt := 20) d_Md_rule_2 (by decide) (fun h1 => ?_) (fun h1 => ?_)
  · exact absurd h1 hg.1
  · refine mj_blk h.1 b_Md_rule_5 rfl trivial ?_
    refine mj_icgt h.1 (tgt := 20) d_Md_rule_7 (by decide) (fun h2 => ?_) (fun h2 => ?_)
    · exact absurd h2 hg.2.1
    · refine mj_blk h.1 b_Md_rule_10 rfl trivial ?_
      refine mj_iflt h.1 (tgt := 20) d_Md_rule_11 (by decide) (fun h3 => ?_) (fun h3 => ?_)
      · exact absurd h3 hg.2.2.1
      · refine mj_blk h.1 b_Md_rule_14 rfl trivial ?_
        refine mj_icle h.1 (tgt := 24) d_Md_rule_17 (by decide) (fun h4 => ?_) (fun h4 => ?_)
        · refine mj_blk h.1 b_Md_rule_24 rfl trivial ?_
          refine mj_icne h.1 (tgt := 37) d_Md_rule_30 (by decide) (fun h5 => ?_) (fun h5 => ?_)
          · refine mj_blk h.1 b_Md_rule_37 rfl trivial ?_
            refine mj_blk h.1 b_Md_rule_38 rfl trivial ?_
            refine mj_ifle h.1 (tgt := 50) d_Md_rule_45 (by decide) (fun h6 => ?_) (fun h6 => ?_)
            · refine mj_blk h.1 b_Md_rule_50 rfl ⟨vp_in_nI (by omega) (by decide), vp_in_nI (by omega) (by decide), vp_in_nI (by omega) (by decide), trivial⟩ ?_
              exact mj_iret h rfl d_Md_rule_96 (by decide) (by decide) ⟨by rw [nI_1, nI_pred], by rw [nI_clamp (by omega), nI_1]⟩
            · exact absurd (by decide) h6
          · exact absurd ((nI_eq (b := 6) (by omega) (by decide)).mp h5) (by omega)
        · exact absurd hg.2.2.2 h4
set_option maxRecDepth 100000 in
set_option maxHeartbeats 8000000 in
theorem lp_Md_found0 {X : mj_X} {post : mj_R} (sz tx cs ct mk lst spn : Nat → Int32) (x t p c s : Nat) (hx : x < 18) (ht : t < 8) (hc : c ≤ 6) (hs9 : s ≤ 80) (hcs : cs (mIx x) = nI c) (hsz : sz (mIx t) = nI s) (hp80 : p ≤ 80) (hps : p + c ≤ 80) (o6 b : Int32) (h : mj_E zG X l D cA m_Md_found 1 40 0 0 (fun _ => True) post) : ∀ (r k : Nat), k + r = c → post (some (.int (if mSm false ct tx x t p r k then 1 else 0))) [(199, cMd th ls n ck ru tr al), (214, cIs 8 sz), (215, cIs 640 tx), (223, cIs 18 cs), (224, cIs 108 ct), (225, cIs 18 mk), (226, cIs 18 lst), (227, cIs 18 spn)] → mj_W zG X 0 0 92 [(8, .int (nI k)), (7, .int 0), (6, .int o6), (5, .int (nI c)), (0, .ref 199), (1, .int (nI x)), (2, .int (nI t)), (3, .int (nI p)), (4, .int b)] [] [(199, cMd th ls n ck ru tr al), (214, cIs 8 sz), (215, cIs 640 tx), (223, cIs 18 cs), (224, cIs 108 ct), (225, cIs 18 mk), (226, cIs 18 lst), (227, cIs 18 spn)] := by
  intro r
  induction r with
  | zero =>
    intro k hk hp
    refine mj_blk h.1 b_Md_found_92 rfl trivial ?_
    refine mj_icge h.1 (tgt := 165) d_Md_found_96 (by decide) (fun h1 => ?_) (fun h1 => ?_)
    · refine mj_blk h.1 b_Md_found_165 rfl trivial ?_
      exact mj_zret h rfl (Or.inr rfl) d_Md_found_166 (by decide) (by decide) hp
    · exact absurd (nI_le (by omega) (by omega)) h1
  | succ r ih =>
    intro k hk hp
    refine mj_blk h.1 b_Md_found_92 rfl trivial ?_
    refine mj_icge h.1 (tgt := 165) d_Md_found_96 (by decide) (fun h1 => ?_) (fun h1 => ?_)
    · exact absurd ((nI_leI (by omega) (by omega)).mp h1) (by omega)
    · refine mj_blk h.1 b_Md_found_99 rfl ⟨by rw [m80]; exact vp_in_nI (by omega) (by decide), by rw [m6]; exact vp_in_nI (by omega) (by decide), trivial⟩ ?_
      rw [m6, m80, nI_clamp (by omega), nI_clamp (by omega)]
      refine mj_ifeq0 h.1 (tgt := 150) d_Md_found_131 (by decide) ?_
      refine mj_blk h.1 b_Md_found_150 rfl trivial ?_
      refine mj_iceq h.1 (tgt := 159) d_Md_found_154 (by decide) (fun h3 => ?_) (fun h3 => ?_)
      · refine mj_blk h.1 b_Md_found_159 rfl trivial ?_
        refine mj_lpk [0, 3, 4, 5, 6, 7, 8, 9, 10] rfl ?_
        have hp2 := hp
        unfold mSm at hp2
        rw [decide_eq_true (show (if false = true then mUp (ct (6 * x + k)) = mUp (tx (80 * t + p + k)) else ct (6 * x + k) = tx (80 * t + p + k)) from h3), Bool.true_and] at hp2
        rw [show nI k + 1 = nI (k + 1) from (nI_succ k).symm]
        exact ih (k + 1) (by omega) hp2
      · have hp2 := hp
        unfold mSm at hp2
        rw [decide_eq_false (show ¬ (if false = true then mUp (ct (6 * x + k)) = mUp (tx (80 * t + p + k)) else ct (6 * x + k) = tx (80 * t + p + k)) from h3), Bool.false_and] at hp2
        refine mj_blk h.1 b_Md_found_157 rfl trivial ?_
        exact mj_zret h rfl (Or.inl rfl) d_Md_found_158 (by decide) (by decide) hp2
set_option maxRecDepth 100000 in
set_option maxHeartbeats 8000000 in
theorem lp_Md_found1 {X : mj_X} {post : mj_R} (sz tx cs ct mk lst spn : Nat → Int32) (x t p c s : Nat) (hx : x < 18) (ht : t < 8) (hc : c ≤ 6) (hs9 : s ≤ 80) (hcs : cs (mIx x) = nI c) (hsz : sz (mIx t) = nI s) (hp80 : p ≤ 80) (hps : p + c ≤ 80) (o6 b : Int32) (h : mj_E zG X l D cA m_Md_found 1 40 0 0 (fun _ => True) post) : ∀ (r k : Nat), k + r = c → post (some (.int (if mSm true ct tx x t p r k then 1 else 0))) [(199, cMd th ls n ck ru tr al), (214, cIs 8 sz), (215, cIs 640 tx), (223, cIs 18 cs), (224, cIs 108 ct), (225, cIs 18 mk), (226, cIs 18 lst), (227, cIs 18 spn)] → mj_W zG X 0 0 92 [(8, .int (nI k)), (7, .int 1), (6, .int o6), (5, .int (nI c)), (0, .ref 199), (1, .int (nI x)), (2, .int (nI t)), (3, .int (nI p)), (4, .int b)] [] [(199, cMd th ls n ck ru tr al), (214, cIs 8 sz), (215, cIs 640 tx), (223, cIs 18 cs), (224, cIs 108 ct), (225, cIs 18 mk), (226, cIs 18 lst), (227, cIs 18 spn)] := by
  intro r
  induction r with
  | zero =>
    intro k hk hp
    refine mj_blk h.1 b_Md_found_92 rfl trivial ?_
    refine mj_icge h.1 (tgt := 165) d_Md_found_96 (by decide) (fun h1 => ?_) (fun h1 => ?_)
    · refine mj_blk h.1 b_Md_found_165 rfl trivial ?_
      exact mj_zret h rfl (Or.inr rfl) d_Md_found_166 (by decide) (by decide) hp
    · exact absurd (nI_le (by omega) (by omega)) h1
  | succ r ih =>
    intro k hk hp
    refine mj_blk h.1 b_Md_found_92 rfl trivial ?_
    refine mj_icge h.1 (tgt := 165) d_Md_found_96 (by decide) (fun h1 => ?_) (fun h1 => ?_)
    · exact absurd ((nI_leI (by omega) (by omega)).mp h1) (by omega)
    · refine mj_blk h.1 b_Md_found_99 rfl ⟨by rw [m80]; exact vp_in_nI (by omega) (by decide), by rw [m6]; exact vp_in_nI (by omega) (by decide), trivial⟩ ?_
      rw [m6, m80, nI_clamp (by omega), nI_clamp (by omega)]
      refine mj_ifeq1 h.1 (tgt := 150) d_Md_found_131 (by decide) ?_
      refine mj_blk h.1 b_Md_found_134 rfl trivial ?_
      refine mj_callS h zGood (ev_Md_upper l D cA _) v_Md_upper rfl l_Md_found_136 d_Md_found_136 rfl ⟨by decide, by decide⟩ ⟨by decide, by decide⟩ [] rfl rfl rfl rfl (Nat.le_of_ble_eq_true rfl) ?_
      rintro _ _ ⟨rfl, rfl⟩
      refine mj_k rfl rfl ?_
      refine mj_blk h.1 b_Md_found_139 rfl trivial ?_
      refine mj_callS h zGood (ev_Md_upper l D cA _) v_Md_upper rfl l_Md_found_141 d_Md_found_141 rfl ⟨by decide, by decide⟩ ⟨by decide, by decide⟩ [] rfl rfl rfl rfl (Nat.le_of_ble_eq_true rfl) ?_
      rintro _ _ ⟨rfl, rfl⟩
      refine mj_k rfl rfl ?_
      refine mj_iceq h.1 (tgt := 159) d_Md_found_144 (by decide) (fun h3 => ?_) (fun h3 => ?_)
      · refine mj_blk h.1 b_Md_found_159 rfl trivial ?_
        refine mj_lpk [0, 3, 4, 5, 6, 7, 8, 9, 10] rfl ?_
        have hp2 := hp
        unfold mSm at hp2
        rw [decide_eq_true (show (if true = true then mUp (ct (6 * x + k)) = mUp (tx (80 * t + p + k)) else ct (6 * x + k) = tx (80 * t + p + k)) from h3), Bool.true_and] at hp2
        rw [show nI k + 1 = nI (k + 1) from (nI_succ k).symm]
        exact ih (k + 1) (by omega) hp2
      · refine mj_blk h.1 b_Md_found_147 rfl trivial ?_
        have hp2 := hp
        unfold mSm at hp2
        rw [decide_eq_false (show ¬ (if true = true then mUp (ct (6 * x + k)) = mUp (tx (80 * t + p + k)) else ct (6 * x + k) = tx (80 * t + p + k)) from h3), Bool.false_and] at hp2
        refine mj_blk h.1 b_Md_found_157 rfl trivial ?_
        exact mj_zret h rfl (Or.inl rfl) d_Md_found_158 (by decide) (by decide) hp2
set_option maxRecDepth 100000 in
set_option maxHeartbeats 4000000 in
theorem ev_Md_found (sz tx cs ct mk lst spn : Nat → Int32) (x t p c s : Nat) (hx : x < 18) (ht : t < 8) (hc : c ≤ 6) (hs9 : s ≤ 80) (hcs : cs (mIx x) = nI c) (hsz : sz (mIx t) = nI s) (hp80 : p ≤ 80) (b : Int32) : E0_Md_found l D cA [.ref 199, .int (nI x), .int (nI t), .int (nI p), .int b] [(199, cMd th ls n ck ru tr al), (214, cIs 8 sz), (215, cIs 640 tx), (223, cIs 18 cs), (224, cIs 108 ct), (225, cIs 18 mk), (226, cIs 18 lst), (227, cIs 18 spn)] (some (.int (if mFd ct tx mk lst spn x t p c s b then 1 else 0))) [(199, cMd th ls n ck ru tr al), (214, cIs 8 sz), (215, cIs 640 tx), (223, cIs 18 cs), (224, cIs 108 ct), (225, cIs 18 mk), (226, cIs 18 lst), (227, cIs 18 spn)] := by
  refine mj_ev (lv := [(0, .ref 199), (1, .int (nI x)), (2, .int (nI t)), (3, .int (nI p)), (4, .int b)]) (by decide +kernel) (Nat.le_of_ble_eq_true rfl) rfl (fun X h => ?_)
  refine mj_blk h.1 b_Md_found_0 rfl ⟨vp_in_nI (by omega) (by decide), vp_in_nI (by omega) (by decide), trivial⟩ ?_
  rw [hcs, hsz]
  refine mj_icgt h.1 (tgt := 68) d_Md_found_24 (by decide) (fun h1 => ?_) (fun h1 => ?_)
  · refine mj_blk h.1 b_Md_found_68 rfl trivial ?_
    exact mj_zret h rfl (Or.inl rfl) d_Md_found_69 (by decide) (by decide) ⟨by unfold mFd; rw [if_pos h1]; rfl, rfl⟩
  · refine mj_blk h.1 b_Md_found_27 rfl ⟨vp_in_nI (by omega) (by decide), trivial⟩ ?_
    refine mj_iclt h.1 (tgt := 68) d_Md_found_35 (by decide) (fun h2 => ?_) (fun h2 => ?_)
    · refine mj_blk h.1 b_Md_found_68 rfl trivial ?_
      exact mj_zret h rfl (Or.inl rfl) d_Md_found_69 (by decide) (by decide) ⟨by unfold mFd; rw [if_neg h1, if_pos h2]; rfl, rfl⟩
    · refine mj_blk h.1 b_Md_found_38 rfl ⟨vp_in_nI (by omega) (by decide), trivial⟩ ?_
      refine mj_ifle h.1 (tgt := 70) d_Md_found_44 (by decide) (fun h3 => ?_) (fun h3 => ?_)
      · refine mj_blk h.1 b_Md_found_70 rfl ⟨vp_in_nI (by omega) (by decide), trivial⟩ ?_
        refine mj_icne h.1 (tgt := 86) d_Md_found_79 (by decide) (fun h4 => ?_) (fun h4 => ?_)
        · refine mj_blk h.1 b_Md_found_86 rfl trivial ?_
          refine mj_blk h.1 b_Md_found_87 rfl trivial ?_
          have hps : p + c ≤ 80 := by
            have h9 := Int32.not_lt.mp h1
            rw [nI_add] at h9
            have h8 := (nI_leI (by omega) (by omega)).mp h9
            omega
          exact lp_Md_found0 l D cA th ls n ck ru tr al sz tx cs ct mk lst spn x t p c s hx ht hc hs9 hcs hsz hp80 hps _ _ h c 0 (by omega) ⟨by unfold mFd; rw [if_neg h1, if_neg h2, if_pos h3, decide_eq_false h4], rfl⟩
        · refine mj_blk h.1 b_Md_found_82 rfl trivial ?_
          refine mj_blk h.1 b_Md_found_87 rfl trivial ?_
          have hps : p + c ≤ 80 := by
            have h9 := Int32.not_lt.mp h1
            rw [nI_add] at h9
            have h8 := (nI_leI (by omega) (by omega)).mp h9
            omega
          exact lp_Md_found1 l D cA th ls n ck ru tr al sz tx cs ct mk lst spn x t p c s hx ht hc hs9 hcs hsz hp80 hps _ _ h c 0 (by omega) ⟨by unfold mFd; rw [if_neg h1, if_neg h2, if_pos h3, decide_eq_true h4], rfl⟩
      · refine mj_blk h.1 b_Md_found_47 rfl ⟨vp_in_nI (by omega) (by decide), vp_in_nI (by omega) (by decide), trivial⟩ ?_
        refine mj_icle h.1 (tgt := 70) d_Md_found_65 (by decide) (fun h5 => ?_) (fun h5 => ?_)
        · refine mj_blk h.1 b_Md_found_70 rfl ⟨vp_in_nI (by omega) (by decide), trivial⟩ ?_
          refine mj_icne h.1 (tgt := 86) d_Md_found_79 (by decide) (fun h6 => ?_) (fun h6 => ?_)
          · refine mj_blk h.1 b_Md_found_86 rfl trivial ?_
            refine mj_blk h.1 b_Md_found_87 rfl trivial ?_
            have hps : p + c ≤ 80 := by
              have h9 := Int32.not_lt.mp h1
              rw [nI_add] at h9
              have h8 := (nI_leI (by omega) (by omega)).mp h9
              omega
            exact lp_Md_found0 l D cA th ls n ck ru tr al sz tx cs ct mk lst spn x t p c s hx ht hc hs9 hcs hsz hp80 hps _ _ h c 0 (by omega) ⟨by unfold mFd; rw [if_neg h1, if_neg h2, if_neg h3, if_pos h5, decide_eq_false h6], rfl⟩
          · refine mj_blk h.1 b_Md_found_82 rfl trivial ?_
            refine mj_blk h.1 b_Md_found_87 rfl trivial ?_
            have hps : p + c ≤ 80 := by
              have h9 := Int32.not_lt.mp h1
              rw [nI_add] at h9
              have h8 := (nI_leI (by omega) (by omega)).mp h9
              omega
            exact lp_Md_found1 l D cA th ls n ck ru tr al sz tx cs ct mk lst spn x t p c s hx ht hc hs9 hcs hsz hp80 hps _ _ h c 0 (by omega) ⟨by unfold mFd; rw [if_neg h1, if_neg h2, if_neg h3, if_pos h5, decide_eq_true h6], rfl⟩
        · refine mj_blk h.1 b_Md_found_68 rfl trivial ?_
          exact mj_zret h rfl (Or.inl rfl) d_Md_found_69 (by decide) (by decide) ⟨by unfold mFd; rw [if_neg h1, if_neg h2, if_neg h3, if_neg h5]; rfl, rfl⟩
end MODF
