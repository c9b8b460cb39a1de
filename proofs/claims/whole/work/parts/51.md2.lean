/-! The reference: sums, reason, close, seal (by program: wip/whole/src_md2.py) -/
def mHs (f : Nat → Int32) (q : Nat) : Int32 := mFo4 4 (mTot f 0 (q - 0) 0 0)
def mPs (f : Nat → Int32) (q L : Nat) : Int32 := mFo4 4 (mTot f 12 (20 - 12) 12 0 + 6 + nI L - nI q + mTot f q (L - q) q 0)
def mQ (f : Nat → Int32) : Nat := (4 * (f 0 - 64)).toNatClampNeg
abbrev mK (f : Nat → Int32) (i : Int32) : Int32 := f i.toNatClampNeg
abbrev mWd (f : Nat → Int32) : Int32 := f (nI (mQ f) + 12).toNatClampNeg >>> ((4 : Int32) &&& 31)
def mRea (n : Nat) (f : Nat → Int32) (s : Prop) [Decidable s] : Int32 :=
  if 20 ≤ nI n then
    if mK f 0 < 69 then 2 else if mK f 0 ≤ 71 then
      if nI n < mPair f 2 then 3 else if nI (mQ f) + 20 ≤ mPair f 2 then
        if s ∧ ¬ mHs f (mQ f) = 65535 then 4 else if mPair f 6 &&& 16383 = 0 then
          if mK f 9 = 6 then
            if mWd f < 5 then 7 else if 8 < mWd f then 7 else if nI (mQ f) + 4 * mWd f ≤ mPair f 2 then
              if s ∧ ¬ mPs f (mQ f) (mPair f 2).toNatClampNeg = 65535 then 8 else 0
            else 7
          else 6
        else 5
      else 3
    else 2
  else 1
theorem mQ_ok {f : Nat → Int32} (h1 : ¬ f 0 < 69) (h2 : f 0 ≤ 71) : 4 * (f 0 - 64) = nI (mQ f) ∧ 20 ≤ mQ f ∧ mQ f ≤ 28 := by
  have a1 := Int32.le_iff_toInt_le.mp (Int32.not_lt.mp h1)
  have a2 := Int32.le_iff_toInt_le.mp h2
  rw [show (69 : Int32).toInt = 69 by decide] at a1
  rw [show (71 : Int32).toInt = 71 by decide] at a2
  obtain ⟨j, hj, e⟩ := nI_of (x := f 0) (fun h9 => by
    have := Int32.lt_iff_toInt_lt.mp h9
    rw [Int32.toInt_zero] at this
    omega)
  rw [e, nI_toInt hj] at a1 a2
  have e2 : 4 * (f 0 - 64) = nI (4 * (j - 64)) := by
    rw [e, show (64 : Int32) = nI 64 from rfl, pk_sub (by omega), show (4 : Int32) = nI 4 from rfl, pk_mul]
  unfold mQ
  rw [e2, nI_clamp (by omega)]
  exact ⟨rfl, by omega, by omega⟩
section MODB
variable (l : Launch) (D : va_G) (cA : Nat → ClassId) (th : Int32) (ls : Bool) (ck : Int32) (ru : Nat) (tr al : Int32)

set_option maxRecDepth 100000 in
set_option maxHeartbeats 4000000 in
theorem ev_Md_headerSum (n : Nat) (f : Nat → Int32) (q : Nat) (hq : 4 * (f 0 - 64) = nI q) (hq2 : q ≤ 100) : E0_Md_headerSum l D cA [.ref 199] [(199, cMd th ls n ck ru tr al), (203, cIs 100 f)] (some (.int (mHs f q))) [(199, cMd th ls n ck ru tr al), (203, cIs 100 f)] := by
  refine mj_ev (lv := [(0, .ref 199)]) (by decide +kernel) (Nat.le_of_ble_eq_true rfl) rfl (fun X h => ?_)
  refine mj_blk h.1 b_Md_headerSum_0 rfl trivial ?_
  refine mj_callV h zGood (ev_Md_headerSize l D cA _ _ _ _ _ _ _ _) v_Md_headerSize l_Md_headerSum_3 d_Md_headerSum_3 rfl ⟨by decide, by decide⟩ ⟨by decide, by decide⟩ [] rfl rfl rfl rfl rfl rfl (Nat.le_of_ble_eq_true rfl) ?_
  rintro _ _ ⟨rfl, rfl⟩
  rw [hq]
  refine mj_k rfl rfl ?_
  refine mj_callV h zGood (ev_Md_total l D cA _ _ _ _ _ _ _ _ 0 q hq2 (Nat.zero_le _)) v_Md_total l_Md_headerSum_6 d_Md_headerSum_6 rfl ⟨by decide, by decide⟩ ⟨by decide, by decide⟩ [] rfl rfl rfl rfl rfl rfl (Nat.le_of_ble_eq_true rfl) ?_
  rintro _ _ ⟨rfl, rfl⟩
  refine mj_k rfl rfl ?_
  refine mj_callS h zGood (ev_Md_folded l D cA _) v_Md_folded rfl l_Md_headerSum_9 d_Md_headerSum_9 rfl ⟨by decide, by decide⟩ ⟨by decide, by decide⟩ [] rfl rfl rfl rfl (Nat.le_of_ble_eq_true rfl) ?_
  rintro _ _ ⟨rfl, rfl⟩
  refine mj_k rfl rfl ?_
  exact mj_iret h rfl d_Md_headerSum_12 (by decide) (by decide) ⟨rfl, rfl⟩
set_option maxRecDepth 100000 in
set_option maxHeartbeats 4000000 in
theorem ev_Md_partSum (n : Nat) (f : Nat → Int32) (q : Nat) (hq : 4 * (f 0 - 64) = nI q) (L : Nat) (hL : mPair f 2 = nI L) (hL2 : L ≤ 100) (hqL : q ≤ L) : E0_Md_partSum l D cA [.ref 199] [(199, cMd th ls n ck ru tr al), (203, cIs 100 f)] (some (.int (mPs f q L))) [(199, cMd th ls n ck ru tr al), (203, cIs 100 f)] := by
  refine mj_ev (lv := [(0, .ref 199)]) (by decide +kernel) (Nat.le_of_ble_eq_true rfl) rfl (fun X h => ?_)
  refine mj_blk h.1 b_Md_partSum_0 rfl trivial ?_
  refine mj_callV h zGood (ev_Md_headerSize l D cA _ _ _ _ _ _ _ _) v_Md_headerSize l_Md_partSum_1 d_Md_partSum_1 rfl ⟨by decide, by decide⟩ ⟨by decide, by decide⟩ [] rfl rfl rfl rfl rfl rfl (Nat.le_of_ble_eq_true rfl) ?_
  rintro _ _ ⟨rfl, rfl⟩
  rw [hq]
  refine mj_k rfl rfl ?_
  refine mj_blk h.1 b_Md_partSum_4 rfl trivial ?_
  refine mj_callV h zGood (ev_Md_pair l D cA _ _ _ _ _ _ _ _ 2 (by decide)) v_Md_pair l_Md_partSum_7 d_Md_partSum_7 rfl ⟨by decide, by decide⟩ ⟨by decide, by decide⟩ [] rfl rfl rfl rfl rfl rfl (Nat.le_of_ble_eq_true rfl) ?_
  rintro _ _ ⟨rfl, rfl⟩
  rw [hL]
  refine mj_k rfl rfl ?_
  refine mj_blk h.1 b_Md_partSum_10 rfl trivial ?_
  refine mj_callV h zGood (ev_Md_total l D cA _ _ _ _ _ _ _ _ 12 20 (by decide) (by decide)) v_Md_total l_Md_partSum_16 d_Md_partSum_16 rfl ⟨by decide, by decide⟩ ⟨by decide, by decide⟩ [] rfl rfl rfl rfl rfl rfl (Nat.le_of_ble_eq_true rfl) ?_
  rintro _ _ ⟨rfl, rfl⟩
  refine mj_k rfl rfl ?_
  refine mj_blk h.1 b_Md_partSum_19 rfl trivial ?_
  refine mj_callV h zGood (ev_Md_total l D cA _ _ _ _ _ _ _ _ q L hL2 hqL) v_Md_total l_Md_partSum_29 d_Md_partSum_29 rfl ⟨by decide, by decide⟩ ⟨by decide, by decide⟩ [] rfl rfl rfl rfl rfl rfl (Nat.le_of_ble_eq_true rfl) ?_
  rintro _ _ ⟨rfl, rfl⟩
  refine mj_k rfl rfl ?_
  refine mj_blk h.1 b_Md_partSum_32 rfl trivial ?_
  refine mj_callS h zGood (ev_Md_folded l D cA _) v_Md_folded rfl l_Md_partSum_33 d_Md_partSum_33 rfl ⟨by decide, by decide⟩ ⟨by decide, by decide⟩ [] rfl rfl rfl rfl (Nat.le_of_ble_eq_true rfl) ?_
  rintro _ _ ⟨rfl, rfl⟩
  refine mj_k rfl rfl ?_
  exact mj_iret h rfl d_Md_partSum_36 (by decide) (by decide) ⟨rfl, rfl⟩
theorem mq16 (q : Nat) : nI q + 16 = nI (q + 16) := nI_add q 16
theorem mq17 (q : Nat) : nI (q + 16) + 1 = nI (q + 17) := (nI_succ (q + 16)).symm
set_option maxRecDepth 100000 in
set_option maxHeartbeats 4000000 in
theorem ev_Md_close (n : Nat) (f f1 f2 f3 f4 : Nat → Int32) (q : Nat) (hq0 : 4 * (f1 0 - 64) = nI q) (hq1 : 4 * (f2 0 - 64) = nI q) (hq3 : 4 * (f3 0 - 64) = nI q) (hq2 : q + 17 < 100) (L : Nat) (hL : mPair f3 2 = nI L) (hL2 : L ≤ 100) (hqL : q ≤ L) (e1 : f1 = upd (upd f 10 0) 11 0) (e2 : f2 = upd (upd f1 10 ((65535 - mHs f1 q) >>> ((8 : Int32) &&& 31))) 11 ((65535 - mHs f1 q) &&& 255)) (e3 : f3 = upd (upd f2 (q + 16) 0) (q + 17) 0) (e4 : f4 = upd (upd f3 (q + 16) ((65535 - mPs f3 q L) >>> ((8 : Int32) &&& 31))) (q + 17) ((65535 - mPs f3 q L) &&& 255)) : E0_Md_close l D cA [.ref 199] [(199, cMd th ls n ck ru tr al), (203, cIs 100 f)] none [(199, cMd th ls n ck ru tr al), (203, cIs 100 f4)] := by
  refine mj_ev (lv := [(0, .ref 199)]) (by decide +kernel) (Nat.le_of_ble_eq_true rfl) rfl (fun X h => ?_)
  refine mj_blk h.1 b_Md_close_0 rfl ⟨vp_in_nI (n := 11) (by decide) (by decide), vp_in_nI (n := 10) (by decide) (by decide), trivial⟩ ?_
  rw [show upd (upd f (Int32.toNatClampNeg 10) 0) (Int32.toNatClampNeg 11) 0 = f1 from e1.symm]
  refine mj_callV h zGood (ev_Md_headerSum l D cA _ _ _ _ _ _ _ f1 q hq0 (by omega)) v_Md_headerSum l_Md_close_19 d_Md_close_19 rfl ⟨by decide, by decide⟩ ⟨by decide, by decide⟩ [] rfl rfl rfl rfl rfl rfl (Nat.le_of_ble_eq_true rfl) ?_
  rintro _ _ ⟨rfl, rfl⟩
  refine mj_k rfl rfl ?_
  refine mj_blk h.1 b_Md_close_22 rfl ⟨vp_in_nI (n := 11) (by decide) (by decide), vp_in_nI (n := 10) (by decide) (by decide), trivial⟩ ?_
  rw [show upd (upd f1 (Int32.toNatClampNeg 10) ((65535 - mHs f1 q) >>> ((8 : Int32) &&& 31))) (Int32.toNatClampNeg 11) ((65535 - mHs f1 q) &&& 255) = f2 from e2.symm]
  refine mj_callV h zGood (ev_Md_headerSize l D cA _ _ _ _ _ _ _ f2) v_Md_headerSize l_Md_close_48 d_Md_close_48 rfl ⟨by decide, by decide⟩ ⟨by decide, by decide⟩ [] rfl rfl rfl rfl rfl rfl (Nat.le_of_ble_eq_true rfl) ?_
  rintro _ _ ⟨rfl, rfl⟩
  rw [hq1]
  refine mj_k rfl rfl ?_
  refine mj_blk h.1 b_Md_close_51 rfl ⟨by rw [mq16, mq17]; exact vp_in_nI (by omega) (by decide), by rw [mq16]; exact vp_in_nI (by omega) (by decide), trivial⟩ ?_
  rw [mq16, mq17, nI_clamp (by omega), nI_clamp (by omega), show upd (upd f2 (q + 16) 0) (q + 17) 0 = f3 from e3.symm]
  refine mj_callV h zGood (ev_Md_partSum l D cA _ _ _ _ _ _ _ f3 q hq3 L hL hL2 hqL) v_Md_partSum l_Md_close_74 d_Md_close_74 rfl ⟨by decide, by decide⟩ ⟨by decide, by decide⟩ [] rfl rfl rfl rfl rfl rfl (Nat.le_of_ble_eq_true rfl) ?_
  rintro _ _ ⟨rfl, rfl⟩
  refine mj_k rfl rfl ?_
  refine mj_blk h.1 b_Md_close_77 rfl ⟨by rw [mq17]; exact vp_in_nI (by omega) (by decide), vp_in_nI (by omega) (by decide), trivial⟩ ?_
  exact mj_vret h rfl d_Md_close_102 (by decide) (by decide) ⟨rfl, by rw [mq17, nI_clamp (by omega), nI_clamp (by omega), e4]⟩
end MODB
