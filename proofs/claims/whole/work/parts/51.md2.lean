/-! The reference: sums, reason, close, seal (by program: wip/whole/src_md2.py) -/
def mHs (f : Nat → Int32) (q : Nat) : Int32 := mFo4 4 (mTot f 0 (q - 0) 0 0)
def mPs (f : Nat → Int32) (q L : Nat) : Int32 := mFo4 4 (mTot f 12 (20 - 12) 12 0 + 6 + nI L - nI q + mTot f q (L - q) q 0)
def mQ (f : Nat → Int32) : Nat := (4 * (f 0 - 64)).toNatClampNeg
abbrev mK (f : Nat → Int32) (i : Int32) : Int32 := f i.toNatClampNeg
abbrev mWd (f : Nat → Int32) : Int32 := f (nI (mQ f) + 12).toNatClampNeg >>> ((4 : Int32) &&& 31)
def mRea (n : Nat) (f : Nat → Int32) (s : Prop) [Decidable s] : Int32 :=
  if 20 ≤ nI n then
    if mK f 0 < 69 then 2 else if mK f 0 ≤ 71 then
      if nI n < mPair f 2 then 3 else if nI (mQ f) + 20 ≤ mPair f 2 then
        if s ∧ ¬ mHs f (mQ f) = 65535 then 4 else if mPair f 6 &&& 16383 = 0 then
          if mK f 9 = 6 then
            if mWd f < 5 then 7 else if 8 < mWd f then 7 else if nI (mQ f) + 4 * mWd f ≤ mPair f 2 then
              if s ∧ ¬ mPs f (mQ f) (mPair f 2).toNatClampNeg = 65535 then 8 else 0
            else 7
          else 6
        else 5
      else 3
    else 2
  else 1
theorem mQ_ok {f : Nat → Int32} (h1 : ¬ f 0 < 69) (h2 : f 0 ≤ 71) : 4 * (f 0 - 64) = nI (mQ f) ∧ 20 ≤ mQ f ∧ mQ f ≤ 28 := by
  have a1 := Int32.le_iff_toInt_le.mp (Int32.not_lt.mp h1)
  have a2 := Int32.le_iff_toInt_le.mp h2
  rw [show (69 : Int32).toInt = 69 by decide] at a1
  rw [show (71 : Int32).toInt = 71 by decide] at a2
  obtain ⟨j, hj, e⟩ := nI_of (x := f 0) (fun h9 => by
    have := Int32.lt_iff_toInt_lt.mp h9
    rw [Int32.toInt_zero] at this
    omega)
  rw [e, nI_toInt hj] at a1 a2
  have e2 : 4 * (f 0 - 64) = nI (4 * (j - 64)) := by
    rw [e, show (64 : Int32) = nI 64 from rfl, pk_sub (by omega), show (4 : Int32) = nI 4 from rfl, pk_mul]
  unfold mQ
  rw [e2, nI_clamp (by omega)]
  exact ⟨rfl, by omega, by omega⟩
section MODB
variable (l : Launch) (D : va_G) (cA : Nat → ClassId) (th : Int32) (ls : Bool) (ck : Int32) (ru : Nat) (tr al : Int32)

set_option maxRecDepth 100000 in
set_option maxHeartbeats 4000000 in
theorem ev_Md_headerSum (n : Nat) (f : Nat → Int32) (q : Nat) (hq : 4 * (f 0 - 64) = nI q) (hq2 : q ≤ 100) : E0_Md_headerSum l D cA [.ref 199] [(199, cMd th ls n ck ru tr al), (203, cIs 100 f)] (some (.int (mHs f q))) [(199, cMd th ls n ck ru tr al), (203, cIs 100 f)] := by
  refine mj_ev (lv := [(0, .ref 199)]) (by decide +kernel) (Nat.le_of_ble_eq_true rfl) rfl (fun X h => ?_)
  refine mj_blk h.1 b_Md_headerSum_0 rfl trivial ?_
  refine mj_callV h zGood (ev_Md_headerSize l D cA _ _ _ _ _ _ _ _) v_Md_headerSize l_Md_headerSum_3 d_Md_headerSum_3 rfl ⟨by decide, by decide⟩ ⟨by decide, by decide⟩ [] rfl rfl rfl rfl rfl rfl (Nat.le_of_ble_eq_true rfl) ?_
  rintro _ _ ⟨rfl, rfl⟩
  rw [hq]
  refine mj_k rfl rfl ?_
  refine mj_callV h zGood (ev_Md_total l D cA _ _ _ _ _ _ _ _ 0 q hq2 (Nat.zero_le _)) v_Md_total l_Md_headerSum_6 d_Md_headerSum_6 rfl ⟨by decide, by decide⟩ ⟨by decide, by decide⟩ [] rfl rfl rfl rfl rfl rfl (Nat.le_of_ble_eq_true rfl) ?_
  rintro _ _ ⟨rfl, rfl⟩
  refine mj_k rfl rfl ?_
  refine mj_callS h zGood (ev_Md_folded l D cA _) v_Md_folded rfl l_Md_headerSum_9 d_Md_headerSum_9 rfl ⟨by decide, by decide⟩ ⟨by decide, by decide⟩ [] rfl rfl rfl rfl (Nat.le_of_ble_eq_true rfl) ?_
  rintro _ _ ⟨rfl, rfl⟩
  refine mj_k rfl rfl ?_
  exact mj_iret h rfl d_Md_headerSum_12 (by decide) (by decide) ⟨rfl, rfl⟩
set_option maxRecDepth 100000 in
set_option maxHeartbeats 4000000 in
theorem ev_Md_partSum (n : Nat) (f : Nat → Int32) (q : Nat) (hq : 4 * (f 0 - 64) = nI q) (L : Nat) (hL : mPair f 2 = nI L) (hL2 : L ≤ 100) (hqL : q ≤ L) : E0_Md_partSum l D cA [.ref 199] [(199, cMd th ls n ck ru tr al), (203, cIs 100 f)] (some (.int (mPs f q L))) [(199, cMd th ls n ck ru tr al), (203, cIs 100 f)] := by
  refine mj_ev (lv := [(0, .ref 199)]) (by decide +kernel) (Nat.le_of_ble_eq_true rfl) rfl (fun X h => ?_)
  refine mj_blk h.1 b_Md_partSum_0 rfl trivial ?_
  refine mj_callV h zGood (ev_Md_headerSize l D cA _ _ _ _ _ _ _ _) v_Md_headerSize l_Md_partSum_1 d_Md_partSum_1 rfl ⟨by decide, by decide⟩ ⟨by decide, by decide⟩ [] rfl rfl rfl rfl rfl rfl (Nat.le_of_ble_eq_true rfl) ?_
  rintro _ _ ⟨rfl, rfl⟩
  rw [hq]
  refine mj_k rfl rfl ?_
  refine mj_blk h.1 b_Md_partSum_4 rfl trivial ?_
  refine mj_callV h zGood (ev_Md_pair l D cA _ _ _ _ _ _ _ _ 2 (by decide)) v_Md_pair l_Md_partSum_7 d_Md_partSum_7 rfl ⟨by decide, by decide⟩ ⟨by decide, by decide⟩ [] rfl rfl rfl rfl rfl rfl (Nat.le_of_ble_eq_true rfl) ?_
  rintro _ _ ⟨rfl, rfl⟩
  rw [hL]
  refine mj_k rfl rfl ?_
  refine mj_blk h.1 b_Md_partSum_10 rfl trivial ?_
  refine mj_callV h zGood (ev_Md_total l D cA _ _ _ _ _ _ _ _ 12 20 (by decide) (by decide)) v_Md_total l_Md_partSum_16 d_Md_partSum_16 rfl ⟨by decide, by decide⟩ ⟨by decide, by decide⟩ [] rfl rfl rfl rfl rfl rfl (Nat.le_of_ble_eq_true rfl) ?_
  rintro _ _ ⟨rfl, rfl⟩
  refine mj_k rfl rfl ?_
  refine mj_blk h.1 b_Md_partSum_19 rfl trivial ?_
  refine mj_callV h zGood (ev_Md_total l D cA _ _ _ _ _ _ _ _ q L hL2 hqL) v_Md_total l_Md_partSum_29 d_Md_partSum_29 rfl ⟨by decide, by decide⟩ ⟨by decide, by decide⟩ [] rfl rfl rfl rfl rfl rfl (Nat.le_of_ble_eq_true rfl) ?_
  rintro _ _ ⟨rfl, rfl⟩
  refine mj_k rfl rfl ?_
  refine mj_blk h.1 b_Md_partSum_32 rfl trivial ?_
  refine mj_callS h zGood (ev_Md_folded l D cA _) v_Md_folded rfl l_Md_partSum_33 d_Md_partSum_33 rfl ⟨by decide, by decide⟩ ⟨by decide, by decide⟩ [] rfl rfl rfl rfl (Nat.le_of_ble_eq_true rfl) ?_
  rintro _ _ ⟨rfl, rfl⟩
  refine mj_k rfl rfl ?_
  exact mj_iret h rfl d_Md_partSum_36 (by decide) (by decide) ⟨rfl, rfl⟩
theorem mq16 (q : Nat) : nI q + 16 = nI (q + 16) := nI_add q 16
theorem mq17 (q : Nat) : nI (q + 16) + 1 = nI (q + 17) := (nI_succ (q + 16)).symm
set_option maxRecDepth 100000 in
set_option maxHeartbeats 4000000 in
theorem ev_Md_close (n : Nat) (f f1 f2 f3 f4 : Nat → Int32) (q : Nat) (hq0 : 4 * (f1 0 - 64) = nI q) (hq1 : 4 * (f2 0 - 64) = nI q) (hq3 : 4 * (f3 0 - 64) = nI q) (hq2 : q + 17 < 100) (L : Nat) (hL : mPair f3 2 = nI L) (hL2 : L ≤ 100) (hqL : q ≤ L) (e1 : f1 = upd (upd f 10 0) 11 0) (e2 : f2 = upd (upd f1 10 ((65535 - mHs f1 q) >>> ((8 : Int32) &&& 31))) 11 ((65535 - mHs f1 q) &&& 255)) (e3 : f3 = upd (upd f2 (q + 16) 0) (q + 17) 0) (e4 : f4 = upd (upd f3 (q + 16) ((65535 - mPs f3 q L) >>> ((8 : Int32) &&& 31))) (q + 17) ((65535 - mPs f3 q L) &&& 255)) : E0_Md_close l D cA [.ref 199] [(199, cMd th ls n ck ru tr al), (203, cIs 100 f)] none [(199, cMd th ls n ck ru tr al), (203, cIs 100 f4)] := by
  refine mj_ev (lv := [(0, .ref 199)]) (by decide +kernel) (Nat.le_of_ble_eq_true rfl) rfl (fun X h => ?_)
  refine mj_blk h.1 b_Md_close_0 rfl ⟨vp_in_nI (n := 11) (by decide) (by decide), vp_in_nI (n := 10) (by decide) (by decide), trivial⟩ ?_
  rw [show upd (upd f (Int32.toNatClampNeg 10) 0) (Int32.toNatClampNeg 11) 0 = f1 from e1.symm]
  refine mj_callV h zGood (ev_Md_headerSum l D cA _ _ _ _ _ _ _ f1 q hq0 (by omega)) v_Md_headerSum l_Md_close_19 d_Md_close_19 rfl ⟨by decide, by decide⟩ ⟨by decide, by decide⟩ [] rfl rfl rfl rfl rfl rfl (Nat.le_of_ble_eq_true rfl) ?_
  rintro _ _ ⟨rfl, rfl⟩
  refine mj_k rfl rfl ?_
  refine mj_blk h.1 b_Md_close_22 rfl ⟨vp_in_nI (n := 11) (by decide) (by decide), vp_in_nI (n := 10) (by decide) (by decide), trivial⟩ ?_
  rw [show upd (upd f1 (Int32.toNatClampNeg 10) ((65535 - mHs f1 q) >>> ((8 : Int32) &&& 31))) (Int32.toNatClampNeg 11) ((65535 - mHs f1 q) &&& 255) = f2 from e2.symm]
  refine mj_callV h zGood (ev_Md_headerSize l D cA _ _ _ _ _ _ _ f2) v_Md_headerSize l_Md_close_48 d_Md_close_48 rfl ⟨by decide, by decide⟩ ⟨by decide, by decide⟩ [] rfl rfl rfl rfl rfl rfl (Nat.le_of_ble_eq_true rfl) ?_
  rintro _ _ ⟨rfl, rfl⟩
  rw [hq1]
  refine mj_k rfl rfl ?_
  refine mj_blk h.1 b_Md_close_51 rfl ⟨by rw [mq16, mq17]; exact vp_in_nI (by omega) (by decide), by rw [mq16]; exact vp_in_nI (by omega) (by decide), trivial⟩ ?_
  rw [mq16, mq17, nI_clamp (by omega), nI_clamp (by omega), show upd (upd f2 (q + 16) 0) (q + 17) 0 = f3 from e3.symm]
  refine mj_callV h zGood (ev_Md_partSum l D cA _ _ _ _ _ _ _ f3 q hq3 L hL hL2 hqL) v_Md_partSum l_Md_close_74 d_Md_close_74 rfl ⟨by decide, by decide⟩ ⟨by decide, by decide⟩ [] rfl rfl rfl rfl rfl rfl (Nat.le_of_ble_eq_true rfl) ?_
  rintro _ _ ⟨rfl, rfl⟩
  refine mj_k rfl rfl ?_
  refine mj_blk h.1 b_Md_close_77 rfl ⟨by rw [mq17]; exact vp_in_nI (by omega) (by decide), vp_in_nI (by omega) (by decide), trivial⟩ ?_
  exact mj_vret h rfl d_Md_close_102 (by decide) (by decide) ⟨rfl, by rw [mq17, nI_clamp (by omega), nI_clamp (by omega), e4]⟩
set_option maxRecDepth 100000 in
set_option maxHeartbeats 4000000 in
theorem ev_Md_reason (n : Nat) (hn : n ≤ 100) (f : Nat → Int32) (s : Prop) [Decidable s] : E0_Md_reason l D cA [.ref 199, .int (if s then 1 else 0)] [(199, cMd th ls n ck ru tr al), (203, cIs 100 f)] (some (.int (mRea n f s))) [(199, cMd th ls n ck ru tr al), (203, cIs 100 f)] := by
  refine mj_ev (lv := [(0, .ref 199), (1, .int (if s then 1 else 0))]) (by decide +kernel) (Nat.le_of_ble_eq_true rfl) rfl (fun X h => ?_)
  refine mj_blk h.1 b_Md_reason_0 rfl trivial ?_
  refine mj_icge h.1 (tgt := 11) d_Md_reason_6 (by decide) (fun h1 => ?_) (fun h1 => ?_)
  · refine mj_blk h.1 b_Md_reason_11 rfl ⟨vp_in_nI (n := 0) (by decide) (by decide), trivial⟩ ?_
    refine mj_iclt h.1 (tgt := 33) d_Md_reason_19 (by decide) (fun h2 => ?_) (fun h2 => ?_)
    · refine mj_blk h.1 b_Md_reason_33 rfl trivial ?_
      exact mj_iret h rfl d_Md_reason_34 (by decide) (by decide) ⟨by unfold mRea; rw [if_pos h1, if_pos h2], rfl⟩
    · refine mj_blk h.1 b_Md_reason_22 rfl ⟨vp_in_nI (n := 0) (by decide) (by decide), trivial⟩ ?_
      refine mj_icle h.1 (tgt := 35) d_Md_reason_30 (by decide) (fun h3 => ?_) (fun h3 => ?_)
      · refine mj_blk h.1 b_Md_reason_35 rfl trivial ?_
        refine mj_callV h zGood (ev_Md_headerSize l D cA _ _ _ _ _ _ _ _) v_Md_headerSize l_Md_reason_36 d_Md_reason_36 rfl ⟨by decide, by decide⟩ ⟨by decide, by decide⟩ [] rfl rfl rfl rfl rfl rfl (Nat.le_of_ble_eq_true rfl) ?_
        rintro _ _ ⟨rfl, rfl⟩
        rw [(mQ_ok h2 h3).1]
        refine mj_k rfl rfl ?_
        refine mj_blk h.1 b_Md_reason_39 rfl trivial ?_
        refine mj_callV h zGood (ev_Md_pair l D cA _ _ _ _ _ _ _ _ 2 (by decide)) v_Md_pair l_Md_reason_42 d_Md_reason_42 rfl ⟨by decide, by decide⟩ ⟨by decide, by decide⟩ [] rfl rfl rfl rfl rfl rfl (Nat.le_of_ble_eq_true rfl) ?_
        rintro _ _ ⟨rfl, rfl⟩
        refine mj_k rfl rfl ?_
        refine mj_blk h.1 b_Md_reason_45 rfl trivial ?_
        refine mj_icgt h.1 (tgt := 62) d_Md_reason_51 (by decide) (fun h4 => ?_) (fun h4 => ?_)
        · refine mj_blk h.1 b_Md_reason_62 rfl trivial ?_
          exact mj_iret h rfl d_Md_reason_63 (by decide) (by decide) ⟨by unfold mRea; rw [if_pos h1, if_neg h2, if_pos h3, if_pos h4], rfl⟩
        · refine mj_blk h.1 b_Md_reason_54 rfl trivial ?_
          refine mj_icge h.1 (tgt := 64) d_Md_reason_59 (by decide) (fun h5 => ?_) (fun h5 => ?_)
          · refine mj_blk h.1 b_Md_reason_64 rfl trivial ?_
            first | refine mj_ifeqB h.1 (tgt := 79) d_Md_reason_65 (by decide) (fun h6 => ?_) (fun h6 => ?_) | refine mj_ifeq h.1 (tgt := 79) d_Md_reason_65 (by decide) (fun h6 => ?_) (fun h6 => ?_)
            · refine mj_blk h.1 b_Md_reason_79 rfl trivial ?_
              refine mj_callV h zGood (ev_Md_pair l D cA _ _ _ _ _ _ _ _ 6 (by decide)) v_Md_pair l_Md_reason_82 d_Md_reason_82 rfl ⟨by decide, by decide⟩ ⟨by decide, by decide⟩ [] rfl rfl rfl rfl rfl rfl (Nat.le_of_ble_eq_true rfl) ?_
              rintro _ _ ⟨rfl, rfl⟩
              refine mj_k rfl rfl ?_
              refine mj_blk h.1 b_Md_reason_85 rfl trivial ?_
              first | refine mj_ifeqB h.1 (tgt := 94) d_Md_reason_89 (by decide) (fun h7 => ?_) (fun h7 => ?_) | refine mj_ifeq h.1 (tgt := 94) d_Md_reason_89 (by decide) (fun h7 => ?_) (fun h7 => ?_)
              · refine mj_blk h.1 b_Md_reason_94 rfl ⟨vp_in_nI (n := 9) (by decide) (by decide), trivial⟩ ?_
                refine mj_iceq h.1 (tgt := 109) d_Md_reason_103 (by decide) (fun h8 => ?_) (fun h8 => ?_)
                · refine mj_blk h.1 b_Md_reason_109 rfl ⟨by rw [show nI (mQ f) + 12 = nI (mQ f + 12) from nI_add _ 12]; exact vp_in_nI (by have := (mQ_ok h2 h3); omega) (by decide), trivial⟩ ?_
                  refine mj_iclt h.1 (tgt := 145) d_Md_reason_125 (by decide) (fun h9 => ?_) (fun h9 => ?_)
                  · refine mj_blk h.1 b_Md_reason_145 rfl trivial ?_
                    exact mj_iret h rfl d_Md_reason_147 (by decide) (by decide) ⟨by unfold mRea; rw [if_pos h1, if_neg h2, if_pos h3, if_neg h4, if_pos h5, if_neg (fun z => h6 z.1), if_pos h7, if_pos h8, if_pos h9], rfl⟩
                  · refine mj_blk h.1 b_Md_reason_128 rfl trivial ?_
                    refine mj_icgt h.1 (tgt := 145) d_Md_reason_132 (by decide) (fun h10 => ?_) (fun h10 => ?_)
                    · refine mj_blk h.1 b_Md_reason_145 rfl trivial ?_
                      exact mj_iret h rfl d_Md_reason_147 (by decide) (by decide) ⟨by unfold mRea; rw [if_pos h1, if_neg h2, if_pos h3, if_neg h4, if_pos h5, if_neg (fun z => h6 z.1), if_pos h7, if_pos h8, if_neg h9, if_pos h10], rfl⟩
                    · refine mj_blk h.1 b_Md_reason_135 rfl trivial ?_
                      refine mj_icle h.1 (tgt := 148) d_Md_reason_142 (by decide) (fun h11 => ?_) (fun h11 => ?_)
                      · refine mj_blk h.1 b_Md_reason_148 rfl trivial ?_
                        first | refine mj_ifeqB h.1 (tgt := 166) d_Md_reason_149 (by decide) (fun h12 => ?_) (fun h12 => ?_) | refine mj_ifeq h.1 (tgt := 166) d_Md_reason_149 (by decide) (fun h12 => ?_) (fun h12 => ?_)
                        · refine mj_blk h.1 b_Md_reason_166 rfl trivial ?_
                          exact mj_iret h rfl d_Md_reason_167 (by decide) (by decide) ⟨by unfold mRea; rw [if_pos h1, if_neg h2, if_pos h3, if_neg h4, if_pos h5, if_neg (fun z => h6 z.1), if_pos h7, if_pos h8, if_neg h9, if_neg h10, if_pos h11, if_neg (fun z => h12 z.1)], rfl⟩
                        · refine mj_blk h.1 b_Md_reason_152 rfl trivial ?_
                          refine mj_callV h zGood (ev_Md_partSum l D cA _ _ _ _ _ _ _ f (mQ f) (mQ_ok h2 h3).1 _ (wLenA hn (show mQ f ≤ 60 by have := (mQ_ok h2 h3); omega) h4 h5).1 (by have := (wLenA hn (show mQ f ≤ 60 by have := (mQ_ok h2 h3); omega) h4 h5); omega) (by have := (wLenA hn (show mQ f ≤ 60 by have := (mQ_ok h2 h3); omega) h4 h5); omega)) v_Md_partSum l_Md_reason_153 d_Md_reason_153 rfl ⟨by decide, by decide⟩ ⟨by decide, by decide⟩ [] rfl rfl rfl rfl rfl rfl (Nat.le_of_ble_eq_true rfl) ?_
                          rintro _ _ ⟨rfl, rfl⟩
                          refine mj_k rfl rfl ?_
                          refine mj_blk h.1 b_Md_reason_156 rfl trivial ?_
                          refine mj_iceq h.1 (tgt := 166) d_Md_reason_158 (by decide) (fun h13 => ?_) (fun h13 => ?_)
                          · refine mj_blk h.1 b_Md_reason_166 rfl trivial ?_
                            exact mj_iret h rfl d_Md_reason_167 (by decide) (by decide) (absurd h12 h6)
                          · refine mj_blk h.1 b_Md_reason_161 rfl trivial ?_
                            exact mj_iret h rfl d_Md_reason_167 (by decide) (by decide) (absurd h12 h6)
                      · refine mj_blk h.1 b_Md_reason_145 rfl trivial ?_
                        exact mj_iret h rfl d_Md_reason_147 (by decide) (by decide) ⟨by unfold mRea; rw [if_pos h1, if_neg h2, if_pos h3, if_neg h4, if_pos h5, if_neg (fun z => h6 z.1), if_pos h7, if_pos h8, if_neg h9, if_neg h10, if_neg h11], rfl⟩
                · refine mj_blk h.1 b_Md_reason_106 rfl trivial ?_
                  exact mj_iret h rfl d_Md_reason_108 (by decide) (by decide) ⟨by unfold mRea; rw [if_pos h1, if_neg h2, if_pos h3, if_neg h4, if_pos h5, if_neg (fun z => h6 z.1), if_pos h7, if_neg h8], rfl⟩
              · refine mj_blk h.1 b_Md_reason_92 rfl trivial ?_
                exact mj_iret h rfl d_Md_reason_93 (by decide) (by decide) ⟨by unfold mRea; rw [if_pos h1, if_neg h2, if_pos h3, if_neg h4, if_pos h5, if_neg (fun z => h6 z.1), if_neg h7], rfl⟩
            · refine mj_blk h.1 b_Md_reason_68 rfl trivial ?_
              refine mj_callV h zGood (ev_Md_headerSum l D cA _ _ _ _ _ _ _ f (mQ f) (mQ_ok h2 h3).1 (by have := (mQ_ok h2 h3); omega)) v_Md_headerSum l_Md_reason_69 d_Md_reason_69 rfl ⟨by decide, by decide⟩ ⟨by decide, by decide⟩ [] rfl rfl rfl rfl rfl rfl (Nat.le_of_ble_eq_true rfl) ?_
              rintro _ _ ⟨rfl, rfl⟩
              refine mj_k rfl rfl ?_
              refine mj_blk h.1 b_Md_reason_72 rfl trivial ?_
              refine mj_iceq h.1 (tgt := 79) d_Md_reason_74 (by decide) (fun h14 => ?_) (fun h14 => ?_)
              · refine mj_blk h.1 b_Md_reason_79 rfl trivial ?_
                refine mj_callV h zGood (ev_Md_pair l D cA _ _ _ _ _ _ _ _ 6 (by decide)) v_Md_pair l_Md_reason_82 d_Md_reason_82 rfl ⟨by decide, by decide⟩ ⟨by decide, by decide⟩ [] rfl rfl rfl rfl rfl rfl (Nat.le_of_ble_eq_true rfl) ?_
                rintro _ _ ⟨rfl, rfl⟩
                refine mj_k rfl rfl ?_
                refine mj_blk h.1 b_Md_reason_85 rfl trivial ?_
                first | refine mj_ifeqB h.1 (tgt := 94) d_Md_reason_89 (by decide) (fun h15 => ?_) (fun h15 => ?_) | refine mj_ifeq h.1 (tgt := 94) d_Md_reason_89 (by decide) (fun h15 => ?_) (fun h15 => ?_)
                · refine mj_blk h.1 b_Md_reason_94 rfl ⟨vp_in_nI (n := 9) (by decide) (by decide), trivial⟩ ?_
                  refine mj_iceq h.1 (tgt := 109) d_Md_reason_103 (by decide) (fun h16 => ?_) (fun h16 => ?_)
                  · refine mj_blk h.1 b_Md_reason_109 rfl ⟨by rw [show nI (mQ f) + 12 = nI (mQ f + 12) from nI_add _ 12]; exact vp_in_nI (by have := (mQ_ok h2 h3); omega) (by decide), trivial⟩ ?_
                    refine mj_iclt h.1 (tgt := 145) d_Md_reason_125 (by decide) (fun h17 => ?_) (fun h17 => ?_)
                    · refine mj_blk h.1 b_Md_reason_145 rfl trivial ?_
                      exact mj_iret h rfl d_Md_reason_147 (by decide) (by decide) ⟨by unfold mRea; rw [if_pos h1, if_neg h2, if_pos h3, if_neg h4, if_pos h5, if_neg (fun z => z.2 h14), if_pos h15, if_pos h16, if_pos h17], rfl⟩
                    · refine mj_blk h.1 b_Md_reason_128 rfl trivial ?_
                      refine mj_icgt h.1 (tgt := 145) d_Md_reason_132 (by decide) (fun h18 => ?_) (fun h18 => ?_)
                      · refine mj_blk h.1 b_Md_reason_145 rfl trivial ?_
                        exact mj_iret h rfl d_Md_reason_147 (by decide) (by decide) ⟨by unfold mRea; rw [if_pos h1, if_neg h2, if_pos h3, if_neg h4, if_pos h5, if_neg (fun z => z.2 h14), if_pos h15, if_pos h16, if_neg h17, if_pos h18], rfl⟩
                      · refine mj_blk h.1 b_Md_reason_135 rfl trivial ?_
                        refine mj_icle h.1 (tgt := 148) d_Md_reason_142 (by decide) (fun h19 => ?_) (fun h19 => ?_)
                        · refine mj_blk h.1 b_Md_reason_148 rfl trivial ?_
                          first | refine mj_ifeqB h.1 (tgt := 166) d_Md_reason_149 (by decide) (fun h20 => ?_) (fun h20 => ?_) | refine mj_ifeq h.1 (tgt := 166) d_Md_reason_149 (by decide) (fun h20 => ?_) (fun h20 => ?_)
                          · refine mj_blk h.1 b_Md_reason_166 rfl trivial ?_
                            exact mj_iret h rfl d_Md_reason_167 (by decide) (by decide) (absurd h6 h20)
                          · refine mj_blk h.1 b_Md_reason_152 rfl trivial ?_
                            refine mj_callV h zGood (ev_Md_partSum l D cA _ _ _ _ _ _ _ f (mQ f) (mQ_ok h2 h3).1 _ (wLenA hn (show mQ f ≤ 60 by have := (mQ_ok h2 h3); omega) h4 h5).1 (by have := (wLenA hn (show mQ f ≤ 60 by have := (mQ_ok h2 h3); omega) h4 h5); omega) (by have := (wLenA hn (show mQ f ≤ 60 by have := (mQ_ok h2 h3); omega) h4 h5); omega)) v_Md_partSum l_Md_reason_153 d_Md_reason_153 rfl ⟨by decide, by decide⟩ ⟨by decide, by decide⟩ [] rfl rfl rfl rfl rfl rfl (Nat.le_of_ble_eq_true rfl) ?_
                            rintro _ _ ⟨rfl, rfl⟩
                            refine mj_k rfl rfl ?_
                            refine mj_blk h.1 b_Md_reason_156 rfl trivial ?_
                            refine mj_iceq h.1 (tgt := 166) d_Md_reason_158 (by decide) (fun h21 => ?_) (fun h21 => ?_)
                            · refine mj_blk h.1 b_Md_reason_166 rfl trivial ?_
                              exact mj_iret h rfl d_Md_reason_167 (by decide) (by decide) ⟨by unfold mRea; rw [if_pos h1, if_neg h2, if_pos h3, if_neg h4, if_pos h5, if_neg (fun z => z.2 h14), if_pos h15, if_pos h16, if_neg h17, if_neg h18, if_pos h19, if_neg (fun z => z.2 h21)], rfl⟩
                            · refine mj_blk h.1 b_Md_reason_161 rfl trivial ?_
                              exact mj_iret h rfl d_Md_reason_167 (by decide) (by decide) ⟨by unfold mRea; rw [if_pos h1, if_neg h2, if_pos h3, if_neg h4, if_pos h5, if_neg (fun z => z.2 h14), if_pos h15, if_pos h16, if_neg h17, if_neg h18, if_pos h19, if_pos ⟨h20, h21⟩], rfl⟩
                        · refine mj_blk h.1 b_Md_reason_145 rfl trivial ?_
                          exact mj_iret h rfl d_Md_reason_147 (by decide) (by decide) ⟨by unfold mRea; rw [if_pos h1, if_neg h2, if_pos h3, if_neg h4, if_pos h5, if_neg (fun z => z.2 h14), if_pos h15, if_pos h16, if_neg h17, if_neg h18, if_neg h19], rfl⟩
                  · refine mj_blk h.1 b_Md_reason_106 rfl trivial ?_
                    exact mj_iret h rfl d_Md_reason_108 (by decide) (by decide) ⟨by unfold mRea; rw [if_pos h1, if_neg h2, if_pos h3, if_neg h4, if_pos h5, if_neg (fun z => z.2 h14), if_pos h15, if_neg h16], rfl⟩
                · refine mj_blk h.1 b_Md_reason_92 rfl trivial ?_
                  exact mj_iret h rfl d_Md_reason_93 (by decide) (by decide) ⟨by unfold mRea; rw [if_pos h1, if_neg h2, if_pos h3, if_neg h4, if_pos h5, if_neg (fun z => z.2 h14), if_neg h15], rfl⟩
              · refine mj_blk h.1 b_Md_reason_77 rfl trivial ?_
                exact mj_iret h rfl d_Md_reason_78 (by decide) (by decide) ⟨by unfold mRea; rw [if_pos h1, if_neg h2, if_pos h3, if_neg h4, if_pos h5, if_pos ⟨h6, h14⟩], rfl⟩
          · refine mj_blk h.1 b_Md_reason_62 rfl trivial ?_
            exact mj_iret h rfl d_Md_reason_63 (by decide) (by decide) ⟨by unfold mRea; rw [if_pos h1, if_neg h2, if_pos h3, if_neg h4, if_neg h5], rfl⟩
      · refine mj_blk h.1 b_Md_reason_33 rfl trivial ?_
        exact mj_iret h rfl d_Md_reason_34 (by decide) (by decide) ⟨by unfold mRea; rw [if_pos h1, if_neg h2, if_neg h3], rfl⟩
  · refine mj_blk h.1 b_Md_reason_9 rfl trivial ?_
    exact mj_iret h rfl d_Md_reason_10 (by decide) (by decide) ⟨by unfold mRea; rw [if_neg h1], rfl⟩
set_option maxRecDepth 100000 in
set_option maxHeartbeats 4000000 in
theorem ev_Md_seal1 (n : Nat) (f : Nat → Int32) (hn : n ≤ 100) (h0 : mRea n f False = 0) (f1 f2 f3 f4 : Nat → Int32) (q : Nat) (hq0 : 4 * (f1 0 - 64) = nI q) (hq1 : 4 * (f2 0 - 64) = nI q) (hq3 : 4 * (f3 0 - 64) = nI q) (hq2 : q + 17 < 100) (L : Nat) (hL : mPair f3 2 = nI L) (hL2 : L ≤ 100) (hqL : q ≤ L) (e1 : f1 = upd (upd f 10 0) 11 0) (e2 : f2 = upd (upd f1 10 ((65535 - mHs f1 q) >>> ((8 : Int32) &&& 31))) 11 ((65535 - mHs f1 q) &&& 255)) (e3 : f3 = upd (upd f2 (q + 16) 0) (q + 17) 0) (e4 : f4 = upd (upd f3 (q + 16) ((65535 - mPs f3 q L) >>> ((8 : Int32) &&& 31))) (q + 17) ((65535 - mPs f3 q L) &&& 255)) : E0_Md_seal l D cA [.ref 199] [(199, cMd th ls n ck ru tr al), (203, cIs 100 f)] (some (.int 1)) [(199, cMd 0 ls n ck ru tr al), (203, cIs 100 f4)] := by
  refine mj_ev (lv := [(0, .ref 199)]) (by decide +kernel) (Nat.le_of_ble_eq_true rfl) rfl (fun X h => ?_)
  refine mj_blk h.1 b_Md_seal_0 rfl trivial ?_
  refine mj_callV h zGood (ev_Md_reason l D cA _ _ _ _ _ _ n hn f False) v_Md_reason l_Md_seal_7 d_Md_seal_7 rfl ⟨by decide, by decide⟩ ⟨by decide, by decide⟩ [] rfl rfl rfl rfl rfl rfl (Nat.le_of_ble_eq_true rfl) ?_
  rintro _ _ ⟨rfl, rfl⟩
  rw [h0]
  refine mj_k rfl rfl ?_
  refine mj_ifle h.1 (tgt := 15) d_Md_seal_10 (by decide) (fun h1 => ?_) (fun h1 => ?_)
  · refine mj_blk h.1 b_Md_seal_15 rfl trivial ?_
    refine mj_callV h zGood (ev_Md_close l D cA _ _ _ _ _ _ n f f1 f2 f3 f4 q hq0 hq1 hq3 hq2 L hL hL2 hqL e1 e2 e3 e4) v_Md_close l_Md_seal_16 d_Md_seal_16 rfl ⟨by decide, by decide⟩ ⟨by decide, by decide⟩ [] rfl rfl rfl rfl rfl rfl (Nat.le_of_ble_eq_true rfl) ?_
    rintro _ _ ⟨rfl, rfl⟩
    refine mj_k rfl rfl ?_
    refine mj_blk h.1 b_Md_seal_19 rfl trivial ?_
    exact mj_zret h rfl (Or.inr rfl) d_Md_seal_20 (by decide) (by decide) ⟨rfl, rfl⟩
  · exact absurd (by decide) h1
set_option maxRecDepth 100000 in
set_option maxHeartbeats 4000000 in
theorem ev_Md_seal0 (n : Nat) (hn : n ≤ 100) (f : Nat → Int32) (h0 : 0 < mRea n f False) : E0_Md_seal l D cA [.ref 199] [(199, cMd th ls n ck ru tr al), (203, cIs 100 f)] (some (.int 0)) [(199, cMd 0 ls n ck ru tr al), (203, cIs 100 f)] := by
  refine mj_ev (lv := [(0, .ref 199)]) (by decide +kernel) (Nat.le_of_ble_eq_true rfl) rfl (fun X h => ?_)
  refine mj_blk h.1 b_Md_seal_0 rfl trivial ?_
  refine mj_callV h zGood (ev_Md_reason l D cA _ _ _ _ _ _ n hn f False) v_Md_reason l_Md_seal_7 d_Md_seal_7 rfl ⟨by decide, by decide⟩ ⟨by decide, by decide⟩ [] rfl rfl rfl rfl rfl rfl (Nat.le_of_ble_eq_true rfl) ?_
  rintro _ _ ⟨rfl, rfl⟩
  generalize hx : mRea n f False = x at h0 ⊢
  refine mj_k rfl rfl ?_
  refine mj_ifle h.1 (tgt := 15) d_Md_seal_10 (by decide) (fun h1 => ?_) (fun h1 => ?_)
  · exact absurd h0 (Int32.not_lt.mpr h1)
  · refine mj_blk h.1 b_Md_seal_13 rfl trivial ?_
    exact mj_zret h rfl (Or.inl rfl) d_Md_seal_14 (by decide) (by decide) ⟨rfl, rfl⟩
end MODB
