/-! The reference: craft (by program: wip/whole/src_md9.py) -/
/-- the reference's forty bytes -/
def kM (y : Int32) (c sq fg m : Int32) (f : Nat → Int32) : Nat → Int32 :=
  mApp 2 38 (mApp 4 34 (mApp 1 33 (mApp 1 32 (mApp 4 28 (mApp 4 24 (mApp 2 22 (mApp 2 20 (mApp 4 16 (mApp 4 12 (mApp 2 10 (mApp 2 8 (mApp 4 4 (mApp 3 1 (mApp 1 0 f 69) (40 + m)) 0) 6) 0) (if y = 0 then 167772161 + c else 167772417)) (if y = 0 then 167772417 else 167772161 + c)) (if y = 0 then 1000 + c else 80)) (if y = 0 then 80 else 1000 + c)) sq) 0) 80) (fg &&& 63)) 0) 0
section MODI
variable (l : Launch) (D : va_G) (cA : Nat → ClassId) (ls : Bool) (ck : Int32) (ru : Nat) (tr al : Int32)

set_option maxRecDepth 100000 in
set_option maxHeartbeats 8000000 in
theorem lp_Md_craft {X : mj_X} {post : mj_R} (h : mj_E zG X l D cA m_Md_craft 3 120 0 0 (fun _ => True) post) (x9 x8 c y sq fg m : Int32) (v : Int64) : ∀ (r n : Nat) (f : Nat → Int32), n + r ≤ 100 → r ≤ 8 → (∀ i9 : Int32, mj_W zG X 0 0 241 [(10, .int i9), (9, .int x9), (8, .int x8), (0, .ref 199), (1, .int c), (2, .int y), (3, .int sq), (4, .int fg), (5, .int m), (6, .long v)] [] [(199, cMd 0 ls (n + r) ck ru tr al), (203, cIs 100 (mPut r n f v))]) → mj_W zG X 0 0 217 [(10, .int (nI r - 1)), (9, .int x9), (8, .int x8), (0, .ref 199), (1, .int c), (2, .int y), (3, .int sq), (4, .int fg), (5, .int m), (6, .long v)] [] [(199, cMd 0 ls n ck ru tr al), (203, cIs 100 f)] := by
  intro r
  induction r with
  | zero =>
    intro n f hn hr K
    refine mj_blk h.1 b_Md_craft_217 rfl trivial ?_
    refine mj_iflt h.1 (tgt := 241) d_Md_craft_219 (by decide) (fun h1 => ?_) (fun h1 => ?_)
    · exact K _
    · exact absurd ((mj_neg (by omega)).mpr rfl) h1
  | succ r ih =>
    intro n f hn hr K
    refine mj_blk h.1 b_Md_craft_217 rfl trivial ?_
    refine mj_iflt h.1 (tgt := 241) d_Md_craft_219 (by decide) (fun h1 => ?_) (fun h1 => ?_)
    · exact absurd ((mj_neg (by omega)).mp h1) (Nat.succ_ne_zero _)
    · refine mj_blk h.1 b_Md_craft_222 rfl trivial ?_
      refine mj_callV h zGood (ev_Md_add l D cA _ _ _ _ _ _ n (by omega) _ _) v_Md_add l_Md_craft_232 d_Md_craft_232 rfl ⟨by decide, by decide⟩ ⟨by decide, by decide⟩ [] rfl rfl rfl rfl rfl rfl (Nat.le_of_ble_eq_true rfl) ?_
      rintro _ _ ⟨rfl, rfl⟩
      refine mj_k rfl rfl ?_
      refine mj_blk h.1 b_Md_craft_235 rfl trivial ?_
      rw [nI_pred, mj_m1]
      exact ih (n + 1) _ (by omega) (by omega) (by rw [show n + 1 + r = n + (r + 1) by omega]; exact K)
set_option maxRecDepth 100000 in
set_option maxHeartbeats 4000000 in
theorem ev_Md_craft_0 (th : Int32) (n : Nat) (f : Nat → Int32) (c sq fg : Int32) (hg : (¬ c < 0 ∧ ¬ 7 < c)) (m : Nat) (hm : m ≤ 8) (v : Int64) (f0 : Nat → Int32) (e0 : f0 = mPut m 40 (kM 0 c sq fg (nI m) f) v) (f1 f2 f3 f4 : Nat → Int32) (q : Nat) (hq0 : 4 * (f1 0 - 64) = nI q) (hq1 : 4 * (f2 0 - 64) = nI q) (hq3 : 4 * (f3 0 - 64) = nI q) (hq2 : q + 17 < 100) (L : Nat) (hL : mPair f3 2 = nI L) (hL2 : L ≤ 100) (hqL : q ≤ L) (e1 : f1 = upd (upd f0 10 0) 11 0) (e2 : f2 = upd (upd f1 10 ((65535 - mHs f1 q) >>> ((8 : Int32) &&& 31))) 11 ((65535 - mHs f1 q) &&& 255)) (e3 : f3 = upd (upd f2 (q + 16) 0) (q + 17) 0) (e4 : f4 = upd (upd f3 (q + 16) ((65535 - mPs f3 q L) >>> ((8 : Int32) &&& 31))) (q + 17) ((65535 - mPs f3 q L) &&& 255)) : E0_Md_craft l D cA [.ref 199, .int c, .int 0, .int sq, .int fg, .int (nI m), .long v] [(199, cMd th ls n ck ru tr al), (203, cIs 100 f)] (some (.int (nI (40 + m)))) [(199, cMd 0 ls (40 + m) ck ru tr al), (203, cIs 100 f4)] := by
  refine mj_ev (lv := [(0, .ref 199), (1, .int c), (2, .int 0), (3, .int sq), (4, .int fg), (5, .int (nI m)), (6, .long v)]) (by decide +kernel) (Nat.le_of_ble_eq_true rfl) rfl (fun X h => ?_)
  refine mj_blk h.1 b_Md_craft_0 rfl trivial ?_
  refine mj_iflt h.1 (tgt := 32) d_Md_craft_2 (by decide) (fun h1 => ?_) (fun h1 => ?_)
  · exact absurd h1 hg.1
  · refine mj_blk h.1 b_Md_craft_5 rfl trivial ?_
    refine mj_icgt h.1 (tgt := 32) d_Md_craft_8 (by decide) (fun h2 => ?_) (fun h2 => ?_)
    · exact absurd h2 hg.2
    · refine mj_blk h.1 b_Md_craft_11 rfl trivial ?_
      refine mj_iflt h.1 (tgt := 32) d_Md_craft_12 (by decide) (fun h3 => ?_) (fun h3 => ?_)
      · exact absurd h3 (by decide)
      · refine mj_blk h.1 b_Md_craft_15 rfl trivial ?_
        refine mj_icgt h.1 (tgt := 32) d_Md_craft_17 (by decide) (fun h4 => ?_) (fun h4 => ?_)
        · exact absurd h4 (by decide)
        · refine mj_blk h.1 b_Md_craft_20 rfl trivial ?_
          refine mj_iflt h.1 (tgt := 32) d_Md_craft_22 (by decide) (fun h5 => ?_) (fun h5 => ?_)
          · exact absurd h5 (nI_pos (by omega))
          · refine mj_blk h.1 b_Md_craft_25 rfl trivial ?_
            refine mj_icle h.1 (tgt := 36) d_Md_craft_29 (by decide) (fun h6 => ?_) (fun h6 => ?_)
            · refine mj_blk h.1 b_Md_craft_36 rfl trivial ?_
              refine mj_blk h.1 b_Md_craft_37 rfl trivial ?_
              refine mj_ifle h.1 (tgt := 49) d_Md_craft_44 (by decide) (fun h7 => ?_) (fun h7 => ?_)
              · refine mj_blk h.1 b_Md_craft_49 rfl trivial ?_
                refine mj_callV h zGood (ev_Md_addNumber l D cA _ _ _ _ _ _ 0 _ _ 1 (by decide) (by decide)) v_Md_addNumber l_Md_craft_68 d_Md_craft_68 rfl ⟨by decide, by decide⟩ ⟨by decide, by decide⟩ [] rfl rfl rfl rfl rfl rfl (Nat.le_of_ble_eq_true rfl) ?_
                rintro _ _ ⟨rfl, rfl⟩
                refine mj_k rfl rfl ?_
                refine mj_blk h.1 b_Md_craft_71 rfl trivial ?_
                refine mj_callV h zGood (ev_Md_addNumber l D cA _ _ _ _ _ _ 1 _ _ 3 (by decide) (by decide)) v_Md_addNumber l_Md_craft_78 d_Md_craft_78 rfl ⟨by decide, by decide⟩ ⟨by decide, by decide⟩ [] rfl rfl rfl rfl rfl rfl (Nat.le_of_ble_eq_true rfl) ?_
                rintro _ _ ⟨rfl, rfl⟩
                refine mj_k rfl rfl ?_
                refine mj_blk h.1 b_Md_craft_81 rfl trivial ?_
                refine mj_callV h zGood (ev_Md_addNumber l D cA _ _ _ _ _ _ 4 _ _ 4 (by decide) (by decide)) v_Md_addNumber l_Md_craft_84 d_Md_craft_84 rfl ⟨by decide, by decide⟩ ⟨by decide, by decide⟩ [] rfl rfl rfl rfl rfl rfl (Nat.le_of_ble_eq_true rfl) ?_
                rintro _ _ ⟨rfl, rfl⟩
                refine mj_k rfl rfl ?_
                refine mj_blk h.1 b_Md_craft_87 rfl trivial ?_
                refine mj_callV h zGood (ev_Md_addNumber l D cA _ _ _ _ _ _ 8 _ _ 2 (by decide) (by decide)) v_Md_addNumber l_Md_craft_91 d_Md_craft_91 rfl ⟨by decide, by decide⟩ ⟨by decide, by decide⟩ [] rfl rfl rfl rfl rfl rfl (Nat.le_of_ble_eq_true rfl) ?_
                rintro _ _ ⟨rfl, rfl⟩
                refine mj_k rfl rfl ?_
                refine mj_blk h.1 b_Md_craft_94 rfl trivial ?_
                refine mj_callV h zGood (ev_Md_addNumber l D cA _ _ _ _ _ _ 10 _ _ 2 (by decide) (by decide)) v_Md_addNumber l_Md_craft_97 d_Md_craft_97 rfl ⟨by decide, by decide⟩ ⟨by decide, by decide⟩ [] rfl rfl rfl rfl rfl rfl (Nat.le_of_ble_eq_true rfl) ?_
                rintro _ _ ⟨rfl, rfl⟩
                refine mj_k rfl rfl ?_
                refine mj_blk h.1 b_Md_craft_100 rfl trivial ?_
                refine mj_ifne0 h.1 (tgt := 110) d_Md_craft_102 (by decide) ?_
                refine mj_blk h.1 b_Md_craft_105 rfl trivial ?_
                refine mj_blk h.1 b_Md_craft_112 rfl trivial ?_
                refine mj_callV h zGood (ev_Md_addNumber l D cA _ _ _ _ _ _ 12 _ _ 4 (by decide) (by decide)) v_Md_addNumber l_Md_craft_113 d_Md_craft_113 rfl ⟨by decide, by decide⟩ ⟨by decide, by decide⟩ [] rfl rfl rfl rfl rfl rfl (Nat.le_of_ble_eq_true rfl) ?_
                rintro _ _ ⟨rfl, rfl⟩
                refine mj_k rfl rfl ?_
                refine mj_blk h.1 b_Md_craft_116 rfl trivial ?_
                refine mj_ifne0 h.1 (tgt := 126) d_Md_craft_118 (by decide) ?_
                refine mj_blk h.1 b_Md_craft_121 rfl trivial ?_
                refine mj_blk h.1 b_Md_craft_128 rfl trivial ?_
                refine mj_callV h zGood (ev_Md_addNumber l D cA _ _ _ _ _ _ 16 _ _ 4 (by decide) (by decide)) v_Md_addNumber l_Md_craft_129 d_Md_craft_129 rfl ⟨by decide, by decide⟩ ⟨by decide, by decide⟩ [] rfl rfl rfl rfl rfl rfl (Nat.le_of_ble_eq_true rfl) ?_
                rintro _ _ ⟨rfl, rfl⟩
                refine mj_k rfl rfl ?_
                refine mj_blk h.1 b_Md_craft_132 rfl trivial ?_
                refine mj_ifne0 h.1 (tgt := 145) d_Md_craft_134 (by decide) ?_
                refine mj_blk h.1 b_Md_craft_137 rfl trivial ?_
                refine mj_blk h.1 b_Md_craft_147 rfl trivial ?_
                refine mj_callV h zGood (ev_Md_addNumber l D cA _ _ _ _ _ _ 20 _ _ 2 (by decide) (by decide)) v_Md_addNumber l_Md_craft_148 d_Md_craft_148 rfl ⟨by decide, by decide⟩ ⟨by decide, by decide⟩ [] rfl rfl rfl rfl rfl rfl (Nat.le_of_ble_eq_true rfl) ?_
                rintro _ _ ⟨rfl, rfl⟩
                refine mj_k rfl rfl ?_
                refine mj_blk h.1 b_Md_craft_151 rfl trivial ?_
                refine mj_ifne0 h.1 (tgt := 161) d_Md_craft_153 (by decide) ?_
                refine mj_blk h.1 b_Md_craft_156 rfl trivial ?_
                refine mj_blk h.1 b_Md_craft_166 rfl trivial ?_
                refine mj_callV h zGood (ev_Md_addNumber l D cA _ _ _ _ _ _ 22 _ _ 2 (by decide) (by decide)) v_Md_addNumber l_Md_craft_167 d_Md_craft_167 rfl ⟨by decide, by decide⟩ ⟨by decide, by decide⟩ [] rfl rfl rfl rfl rfl rfl (Nat.le_of_ble_eq_true rfl) ?_
                rintro _ _ ⟨rfl, rfl⟩
                refine mj_k rfl rfl ?_
                refine mj_blk h.1 b_Md_craft_170 rfl trivial ?_
                refine mj_callV h zGood (ev_Md_addNumber l D cA _ _ _ _ _ _ 24 _ _ 4 (by decide) (by decide)) v_Md_addNumber l_Md_craft_173 d_Md_craft_173 rfl ⟨by decide, by decide⟩ ⟨by decide, by decide⟩ [] rfl rfl rfl rfl rfl rfl (Nat.le_of_ble_eq_true rfl) ?_
                rintro _ _ ⟨rfl, rfl⟩
                refine mj_k rfl rfl ?_
                refine mj_blk h.1 b_Md_craft_176 rfl trivial ?_
                refine mj_callV h zGood (ev_Md_addNumber l D cA _ _ _ _ _ _ 28 _ _ 4 (by decide) (by decide)) v_Md_addNumber l_Md_craft_179 d_Md_craft_179 rfl ⟨by decide, by decide⟩ ⟨by decide, by decide⟩ [] rfl rfl rfl rfl rfl rfl (Nat.le_of_ble_eq_true rfl) ?_
                rintro _ _ ⟨rfl, rfl⟩
                refine mj_k rfl rfl ?_
                refine mj_blk h.1 b_Md_craft_182 rfl trivial ?_
                refine mj_callV h zGood (ev_Md_addNumber l D cA _ _ _ _ _ _ 32 _ _ 1 (by decide) (by decide)) v_Md_addNumber l_Md_craft_186 d_Md_craft_186 rfl ⟨by decide, by decide⟩ ⟨by decide, by decide⟩ [] rfl rfl rfl rfl rfl rfl (Nat.le_of_ble_eq_true rfl) ?_
                rintro _ _ ⟨rfl, rfl⟩
                refine mj_k rfl rfl ?_
                refine mj_blk h.1 b_Md_craft_189 rfl trivial ?_
                refine mj_callV h zGood (ev_Md_addNumber l D cA _ _ _ _ _ _ 33 _ _ 1 (by decide) (by decide)) v_Md_addNumber l_Md_craft_196 d_Md_craft_196 rfl ⟨by decide, by decide⟩ ⟨by decide, by decide⟩ [] rfl rfl rfl rfl rfl rfl (Nat.le_of_ble_eq_true rfl) ?_
                rintro _ _ ⟨rfl, rfl⟩
                refine mj_k rfl rfl ?_
                refine mj_blk h.1 b_Md_craft_199 rfl trivial ?_
                refine mj_callV h zGood (ev_Md_addNumber l D cA _ _ _ _ _ _ 34 _ _ 4 (by decide) (by decide)) v_Md_addNumber l_Md_craft_202 d_Md_craft_202 rfl ⟨by decide, by decide⟩ ⟨by decide, by decide⟩ [] rfl rfl rfl rfl rfl rfl (Nat.le_of_ble_eq_true rfl) ?_
                rintro _ _ ⟨rfl, rfl⟩
                refine mj_k rfl rfl ?_
                refine mj_blk h.1 b_Md_craft_205 rfl trivial ?_
                refine mj_callV h zGood (ev_Md_addNumber l D cA _ _ _ _ _ _ 38 _ _ 2 (by decide) (by decide)) v_Md_addNumber l_Md_craft_208 d_Md_craft_208 rfl ⟨by decide, by decide⟩ ⟨by decide, by decide⟩ [] rfl rfl rfl rfl rfl rfl (Nat.le_of_ble_eq_true rfl) ?_
                rintro _ _ ⟨rfl, rfl⟩
                refine mj_k rfl rfl ?_
                refine mj_blk h.1 b_Md_craft_211 rfl trivial ?_
                refine lp_Md_craft l D cA ls ck ru tr al h _ _ c _ sq fg _ v m 40 _ (by omega) hm (fun i9 => ?_)
                subst e0
                refine mj_blk h.1 b_Md_craft_241 rfl trivial ?_
                refine mj_callV h zGood (ev_Md_close l D cA 0 ls ck ru tr al (40 + m) (mPut m 40 (kM 0 c sq fg (nI m) f) v) f1 f2 f3 f4 q hq0 hq1 hq3 hq2 L hL hL2 hqL e1 e2 e3 e4) v_Md_close l_Md_craft_242 d_Md_craft_242 rfl ⟨by decide, by decide⟩ ⟨by decide, by decide⟩ [] rfl rfl rfl rfl rfl rfl (Nat.le_of_ble_eq_true rfl) ?_
                rintro _ _ ⟨rfl, rfl⟩
                refine mj_k rfl rfl ?_
                refine mj_blk h.1 b_Md_craft_245 rfl trivial ?_
                exact mj_iret h rfl d_Md_craft_249 (by decide) (by decide) ⟨rfl, rfl⟩
              · exact absurd (by decide) h7
            · exact absurd (show nI m ≤ 8 from nI_le (b := 8) (by omega) (by decide)) h6
set_option maxRecDepth 100000 in
set_option maxHeartbeats 4000000 in
theorem ev_Md_craft_1 (th : Int32) (n : Nat) (f : Nat → Int32) (c sq fg : Int32) (hg : (¬ c < 0 ∧ ¬ 7 < c)) (m : Nat) (hm : m ≤ 8) (v : Int64) (f0 : Nat → Int32) (e0 : f0 = mPut m 40 (kM 1 c sq fg (nI m) f) v) (f1 f2 f3 f4 : Nat → Int32) (q : Nat) (hq0 : 4 * (f1 0 - 64) = nI q) (hq1 : 4 * (f2 0 - 64) = nI q) (hq3 : 4 * (f3 0 - 64) = nI q) (hq2 : q + 17 < 100) (L : Nat) (hL : mPair f3 2 = nI L) (hL2 : L ≤ 100) (hqL : q ≤ L) (e1 : f1 = upd (upd f0 10 0) 11 0) (e2 : f2 = upd (upd f1 10 ((65535 - mHs f1 q) >>> ((8 : Int32) &&& 31))) 11 ((65535 - mHs f1 q) &&& 255)) (e3 : f3 = upd (upd f2 (q + 16) 0) (q + 17) 0) (e4 : f4 = upd (upd f3 (q + 16) ((65535 - mPs f3 q L) >>> ((8 : Int32) &&& 31))) (q + 17) ((65535 - mPs f3 q L) &&& 255)) : E0_Md_craft l D cA [.ref 199, .int c, .int 1, .int sq, .int fg, .int (nI m), .long v] [(199, cMd th ls n ck ru tr al), (203, cIs 100 f)] (some (.int (nI (40 + m)))) [(199, cMd 0 ls (40 + m) ck ru tr al), (203, cIs 100 f4)] := by
  refine mj_ev (lv := [(0, .ref 199), (1, .int c), (2, .int 1), (3, .int sq), (4, .int fg), (5, .int (nI m)), (6, .long v)]) (by decide +kernel) (Nat.le_of_ble_eq_true rfl) rfl (fun X h => ?_)
  refine mj_blk h.1 b_Md_craft_0 rfl trivial ?_
  refine mj_iflt h.1 (tgt := 32) d_Md_craft_2 (by decide) (fun h1 => ?_) (fun h1 => ?_)
  · exact absurd h1 hg.1
  · refine mj_blk h.1 b_Md_craft_5 rfl trivial ?_
    refine mj_icgt h.1 (tgt := 32) d_Md_craft_8 (by decide) (fun h2 => ?_) (fun h2 => ?_)
    · exact absurd h2 hg.2
    · refine mj_blk h.1 b_Md_craft_11 rfl trivial ?_
      refine mj_iflt h.1 (tgt := 32) d_Md_craft_12 (by decide) (fun h3 => ?_) (fun h3 => ?_)
      · exact absurd h3 (by decide)
      · refine mj_blk h.1 b_Md_craft_15 rfl trivial ?_
        refine mj_icgt h.1 (tgt := 32) d_Md_craft_17 (by decide) (fun h4 => ?_) (fun h4 => ?_)
        · exact absurd h4 (by decide)
        · refine mj_blk h.1 b_Md_craft_20 rfl trivial ?_
          refine mj_iflt h.1 (tgt := 32) d_Md_craft_22 (by decide) (fun h5 => ?_) (fun h5 => ?_)
          · exact absurd h5 (nI_pos (by omega))
          · refine mj_blk h.1 b_Md_craft_25 rfl trivial ?_
            refine mj_icle h.1 (tgt := 36) d_Md_craft_29 (by decide) (fun h6 => ?_) (fun h6 => ?_)
            · refine mj_blk h.1 b_Md_craft_36 rfl trivial ?_
              refine mj_blk h.1 b_Md_craft_37 rfl trivial ?_
              refine mj_ifle h.1 (tgt := 49) d_Md_craft_44 (by decide) (fun h7 => ?_) (fun h7 => ?_)
              · refine mj_blk h.1 b_Md_craft_49 rfl trivial ?_
                refine mj_callV h zGood (ev_Md_addNumber l D cA _ _ _ _ _ _ 0 _ _ 1 (by decide) (by decide)) v_Md_addNumber l_Md_craft_68 d_Md_craft_68 rfl ⟨by decide, by decide⟩ ⟨by decide, by decide⟩ [] rfl rfl rfl rfl rfl rfl (Nat.le_of_ble_eq_true rfl) ?_
                rintro _ _ ⟨rfl, rfl⟩
                refine mj_k rfl rfl ?_
                refine mj_blk h.1 b_Md_craft_71 rfl trivial ?_
                refine mj_callV h zGood (ev_Md_addNumber l D cA _ _ _ _ _ _ 1 _ _ 3 (by decide) (by decide)) v_Md_addNumber l_Md_craft_78 d_Md_craft_78 rfl ⟨by decide, by decide⟩ ⟨by decide, by decide⟩ [] rfl rfl rfl rfl rfl rfl (Nat.le_of_ble_eq_true rfl) ?_
                rintro _ _ ⟨rfl, rfl⟩
                refine mj_k rfl rfl ?_
                refine mj_blk h.1 b_Md_craft_81 rfl trivial ?_
                refine mj_callV h zGood (ev_Md_addNumber l D cA _ _ _ _ _ _ 4 _ _ 4 (by decide) (by decide)) v_Md_addNumber l_Md_craft_84 d_Md_craft_84 rfl ⟨by decide, by decide⟩ ⟨by decide, by decide⟩ [] rfl rfl rfl rfl rfl rfl (Nat.le_of_ble_eq_true rfl) ?_
                rintro _ _ ⟨rfl, rfl⟩
                refine mj_k rfl rfl ?_
                refine mj_blk h.1 b_Md_craft_87 rfl trivial ?_
                refine mj_callV h zGood (ev_Md_addNumber l D cA _ _ _ _ _ _ 8 _ _ 2 (by decide) (by decide)) v_Md_addNumber l_Md_craft_91 d_Md_craft_91 rfl ⟨by decide, by decide⟩ ⟨by decide, by decide⟩ [] rfl rfl rfl rfl rfl rfl (Nat.le_of_ble_eq_true rfl) ?_
                rintro _ _ ⟨rfl, rfl⟩
                refine mj_k rfl rfl ?_
                refine mj_blk h.1 b_Md_craft_94 rfl trivial ?_
                refine mj_callV h zGood (ev_Md_addNumber l D cA _ _ _ _ _ _ 10 _ _ 2 (by decide) (by decide)) v_Md_addNumber l_Md_craft_97 d_Md_craft_97 rfl ⟨by decide, by decide⟩ ⟨by decide, by decide⟩ [] rfl rfl rfl rfl rfl rfl (Nat.le_of_ble_eq_true rfl) ?_
                rintro _ _ ⟨rfl, rfl⟩
                refine mj_k rfl rfl ?_
                refine mj_blk h.1 b_Md_craft_100 rfl trivial ?_
                refine mj_ifne1 h.1 (tgt := 110) d_Md_craft_102 (by decide) ?_
                refine mj_blk h.1 b_Md_craft_110 rfl trivial ?_
                refine mj_blk h.1 b_Md_craft_112 rfl trivial ?_
                refine mj_callV h zGood (ev_Md_addNumber l D cA _ _ _ _ _ _ 12 _ _ 4 (by decide) (by decide)) v_Md_addNumber l_Md_craft_113 d_Md_craft_113 rfl ⟨by decide, by decide⟩ ⟨by decide, by decide⟩ [] rfl rfl rfl rfl rfl rfl (Nat.le_of_ble_eq_true rfl) ?_
                rintro _ _ ⟨rfl, rfl⟩
                refine mj_k rfl rfl ?_
                refine mj_blk h.1 b_Md_craft_116 rfl trivial ?_
                refine mj_ifne1 h.1 (tgt := 126) d_Md_craft_118 (by decide) ?_
                refine mj_blk h.1 b_Md_craft_126 rfl trivial ?_
                refine mj_blk h.1 b_Md_craft_128 rfl trivial ?_
                refine mj_callV h zGood (ev_Md_addNumber l D cA _ _ _ _ _ _ 16 _ _ 4 (by decide) (by decide)) v_Md_addNumber l_Md_craft_129 d_Md_craft_129 rfl ⟨by decide, by decide⟩ ⟨by decide, by decide⟩ [] rfl rfl rfl rfl rfl rfl (Nat.le_of_ble_eq_true rfl) ?_
                rintro _ _ ⟨rfl, rfl⟩
                refine mj_k rfl rfl ?_
                refine mj_blk h.1 b_Md_craft_132 rfl trivial ?_
                refine mj_ifne1 h.1 (tgt := 145) d_Md_craft_134 (by decide) ?_
                refine mj_blk h.1 b_Md_craft_145 rfl trivial ?_
                refine mj_blk h.1 b_Md_craft_147 rfl trivial ?_
                refine mj_callV h zGood (ev_Md_addNumber l D cA _ _ _ _ _ _ 20 _ _ 2 (by decide) (by decide)) v_Md_addNumber l_Md_craft_148 d_Md_craft_148 rfl ⟨by decide, by decide⟩ ⟨by decide, by decide⟩ [] rfl rfl rfl rfl rfl rfl (Nat.le_of_ble_eq_true rfl) ?_
                rintro _ _ ⟨rfl, rfl⟩
                refine mj_k rfl rfl ?_
                refine mj_blk h.1 b_Md_craft_151 rfl trivial ?_
                refine mj_ifne1 h.1 (tgt := 161) d_Md_craft_153 (by decide) ?_
                refine mj_blk h.1 b_Md_craft_161 rfl trivial ?_
                refine mj_blk h.1 b_Md_craft_166 rfl trivial ?_
                refine mj_callV h zGood (ev_Md_addNumber l D cA _ _ _ _ _ _ 22 _ _ 2 (by decide) (by decide)) v_Md_addNumber l_Md_craft_167 d_Md_craft_167 rfl ⟨by decide, by decide⟩ ⟨by decide, by decide⟩ [] rfl rfl rfl rfl rfl rfl (Nat.le_of_ble_eq_true rfl) ?_
                rintro _ _ ⟨rfl, rfl⟩
                refine mj_k rfl rfl ?_
                refine mj_blk h.1 b_Md_craft_170 rfl trivial ?_
                refine mj_callV h zGood (ev_Md_addNumber l D cA _ _ _ _ _ _ 24 _ _ 4 (by decide) (by decide)) v_Md_addNumber l_Md_craft_173 d_Md_craft_173 rfl ⟨by decide, by decide⟩ ⟨by decide, by decide⟩ [] rfl rfl rfl rfl rfl rfl (Nat.le_of_ble_eq_true rfl) ?_
                rintro _ _ ⟨rfl, rfl⟩
                refine mj_k rfl rfl ?_
                refine mj_blk h.1 b_Md_craft_176 rfl trivial ?_
                refine mj_callV h zGood (ev_Md_addNumber l D cA _ _ _ _ _ _ 28 _ _ 4 (by decide) (by decide)) v_Md_addNumber l_Md_craft_179 d_Md_craft_179 rfl ⟨by decide, by decide⟩ ⟨by decide, by decide⟩ [] rfl rfl rfl rfl rfl rfl (Nat.le_of_ble_eq_true rfl) ?_
                rintro _ _ ⟨rfl, rfl⟩
                refine mj_k rfl rfl ?_
                refine mj_blk h.1 b_Md_craft_182 rfl trivial ?_
                refine mj_callV h zGood (ev_Md_addNumber l D cA _ _ _ _ _ _ 32 _ _ 1 (by decide) (by decide)) v_Md_addNumber l_Md_craft_186 d_Md_craft_186 rfl ⟨by decide, by decide⟩ ⟨by decide, by decide⟩ [] rfl rfl rfl rfl rfl rfl (Nat.le_of_ble_eq_true rfl) ?_
                rintro _ _ ⟨rfl, rfl⟩
                refine mj_k rfl rfl ?_
                refine mj_blk h.1 b_Md_craft_189 rfl trivial ?_
                refine mj_callV h zGood (ev_Md_addNumber l D cA _ _ _ _ _ _ 33 _ _ 1 (by decide) (by decide)) v_Md_addNumber l_Md_craft_196 d_Md_craft_196 rfl ⟨by decide, by decide⟩ ⟨by decide, by decide⟩ [] rfl rfl rfl rfl rfl rfl (Nat.le_of_ble_eq_true rfl) ?_
                rintro _ _ ⟨rfl, rfl⟩
                refine mj_k rfl rfl ?_
                refine mj_blk h.1 b_Md_craft_199 rfl trivial ?_
                refine mj_callV h zGood (ev_Md_addNumber l D cA _ _ _ _ _ _ 34 _ _ 4 (by decide) (by decide)) v_Md_addNumber l_Md_craft_202 d_Md_craft_202 rfl ⟨by decide, by decide⟩ ⟨by decide, by decide⟩ [] rfl rfl rfl rfl rfl rfl (Nat.le_of_ble_eq_true rfl) ?_
                rintro _ _ ⟨rfl, rfl⟩
                refine mj_k rfl rfl ?_
                refine mj_blk h.1 b_Md_craft_205 rfl trivial ?_
                refine mj_callV h zGood (ev_Md_addNumber l D cA _ _ _ _ _ _ 38 _ _ 2 (by decide) (by decide)) v_Md_addNumber l_Md_craft_208 d_Md_craft_208 rfl ⟨by decide, by decide⟩ ⟨by decide, by decide⟩ [] rfl rfl rfl rfl rfl rfl (Nat.le_of_ble_eq_true rfl) ?_
                rintro _ _ ⟨rfl, rfl⟩
                refine mj_k rfl rfl ?_
                refine mj_blk h.1 b_Md_craft_211 rfl trivial ?_
                refine lp_Md_craft l D cA ls ck ru tr al h _ _ c _ sq fg _ v m 40 _ (by omega) hm (fun i9 => ?_)
                subst e0
                refine mj_blk h.1 b_Md_craft_241 rfl trivial ?_
                refine mj_callV h zGood (ev_Md_close l D cA 0 ls ck ru tr al (40 + m) (mPut m 40 (kM 1 c sq fg (nI m) f) v) f1 f2 f3 f4 q hq0 hq1 hq3 hq2 L hL hL2 hqL e1 e2 e3 e4) v_Md_close l_Md_craft_242 d_Md_craft_242 rfl ⟨by decide, by decide⟩ ⟨by decide, by decide⟩ [] rfl rfl rfl rfl rfl rfl (Nat.le_of_ble_eq_true rfl) ?_
                rintro _ _ ⟨rfl, rfl⟩
                refine mj_k rfl rfl ?_
                refine mj_blk h.1 b_Md_craft_245 rfl trivial ?_
                exact mj_iret h rfl d_Md_craft_249 (by decide) (by decide) ⟨rfl, rfl⟩
              · exact absurd (by decide) h7
            · exact absurd (show nI m ≤ 8 from nI_le (b := 8) (by omega) (by decide)) h6
set_option maxRecDepth 100000 in
set_option maxHeartbeats 4000000 in
theorem ev_Md_craft_x (th : Int32) (n : Nat) (f : Nat → Int32) (c y sq fg k : Int32) (hb : ¬ (¬ c < 0 ∧ ¬ 7 < c ∧ ¬ y < 0 ∧ ¬ 1 < y ∧ ¬ k < 0 ∧ k ≤ 8)) (v : Int64) : E0_Md_craft l D cA [.ref 199, .int c, .int y, .int sq, .int fg, .int k, .long v] [(199, cMd th ls n ck ru tr al), (203, cIs 100 f)] (some (.int 0)) [(199, cMd 1 ls n ck ru tr al), (203, cIs 100 f)] := by
  refine mj_ev (lv := [(0, .ref 199), (1, .int c), (2, .int y), (3, .int sq), (4, .int fg), (5, .int k), (6, .long v)]) (by decide +kernel) (Nat.le_of_ble_eq_true rfl) rfl (fun X h => ?_)
  refine mj_blk h.1 b_Md_craft_0 rfl trivial ?_
  refine mj_iflt h.1 (tgt := 32) d_Md_craft_2 (by decide) (fun h1 => ?_) (fun h1 => ?_)
  · refine mj_blk h.1 b_Md_craft_32 rfl trivial ?_
    refine mj_blk h.1 b_Md_craft_37 rfl trivial ?_
    refine mj_ifle h.1 (tgt := 49) d_Md_craft_44 (by decide) (fun h2 => ?_) (fun h2 => ?_)
    · exact absurd h2 (by decide)
    · refine mj_blk h.1 b_Md_craft_47 rfl trivial ?_
      exact mj_iret h rfl d_Md_craft_48 (by decide) (by decide) ⟨rfl, rfl⟩
  · refine mj_blk h.1 b_Md_craft_5 rfl trivial ?_
    refine mj_icgt h.1 (tgt := 32) d_Md_craft_8 (by decide) (fun h3 => ?_) (fun h3 => ?_)
    · refine mj_blk h.1 b_Md_craft_32 rfl trivial ?_
      refine mj_blk h.1 b_Md_craft_37 rfl trivial ?_
      refine mj_ifle h.1 (tgt := 49) d_Md_craft_44 (by decide) (fun h4 => ?_) (fun h4 => ?_)
      · exact absurd h4 (by decide)
      · refine mj_blk h.1 b_Md_craft_47 rfl trivial ?_
        exact mj_iret h rfl d_Md_craft_48 (by decide) (by decide) ⟨rfl, rfl⟩
    · refine mj_blk h.1 b_Md_craft_11 rfl trivial ?_
      refine mj_iflt h.1 (tgt := 32) d_Md_craft_12 (by decide) (fun h5 => ?_) (fun h5 => ?_)
      · refine mj_blk h.1 b_Md_craft_32 rfl trivial ?_
        refine mj_blk h.1 b_Md_craft_37 rfl trivial ?_
        refine mj_ifle h.1 (tgt := 49) d_Md_craft_44 (by decide) (fun h6 => ?_) (fun h6 => ?_)
        · exact absurd h6 (by decide)
        · refine mj_blk h.1 b_Md_craft_47 rfl trivial ?_
          exact mj_iret h rfl d_Md_craft_48 (by decide) (by decide) ⟨rfl, rfl⟩
      · refine mj_blk h.1 b_Md_craft_15 rfl trivial ?_
        refine mj_icgt h.1 (tgt := 32) d_Md_craft_17 (by decide) (fun h7 => ?_) (fun h7 => ?_)
        · refine mj_blk h.1 b_Md_craft_32 rfl trivial ?_
          refine mj_blk h.1 b_Md_craft_37 rfl trivial ?_
          refine mj_ifle h.1 (tgt := 49) d_Md_craft_44 (by decide) (fun h8 => ?_) (fun h8 => ?_)
          · exact absurd h8 (by decide)
          · refine mj_blk h.1 b_Md_craft_47 rfl trivial ?_
            exact mj_iret h rfl d_Md_craft_48 (by decide) (by decide) ⟨rfl, rfl⟩
        · refine mj_blk h.1 b_Md_craft_20 rfl trivial ?_
          refine mj_iflt h.1 (tgt := 32) d_Md_craft_22 (by decide) (fun h9 => ?_) (fun h9 => ?_)
          · refine mj_blk h.1 b_Md_craft_32 rfl trivial ?_
            refine mj_blk h.1 b_Md_craft_37 rfl trivial ?_
            refine mj_ifle h.1 (tgt := 49) d_Md_craft_44 (by decide) (fun h10 => ?_) (fun h10 => ?_)
            · exact absurd h10 (by decide)
            · refine mj_blk h.1 b_Md_craft_47 rfl trivial ?_
              exact mj_iret h rfl d_Md_craft_48 (by decide) (by decide) ⟨rfl, rfl⟩
          · refine mj_blk h.1 b_Md_craft_25 rfl trivial ?_
            refine mj_icle h.1 (tgt := 36) d_Md_craft_29 (by decide) (fun h11 => ?_) (fun h11 => ?_)
            · exact absurd ⟨h1, h3, h5, h7, h9, h11⟩ hb
            · refine mj_blk h.1 b_Md_craft_32 rfl trivial ?_
              refine mj_blk h.1 b_Md_craft_37 rfl trivial ?_
              refine mj_ifle h.1 (tgt := 49) d_Md_craft_44 (by decide) (fun h12 => ?_) (fun h12 => ?_)
              · exact absurd h12 (by decide)
              · refine mj_blk h.1 b_Md_craft_47 rfl trivial ?_
                exact mj_iret h rfl d_Md_craft_48 (by decide) (by decide) ⟨rfl, rfl⟩
end MODI
