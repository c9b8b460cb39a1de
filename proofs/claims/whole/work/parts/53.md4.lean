/-! The reference: stream, text, room, find, hold (by program: wip/whole/src_md4.py) -/
theorem mT (j y : Nat) : 2 * nI j + nI y = nI (2 * j + y) := by rw [show (2 : Int32) = nI 2 from rfl, pk_mul, nI_add]
theorem mX (t k : Nat) : 32 * nI t + nI k = nI (32 * t + k) := by rw [show (32 : Int32) = nI 32 from rfl, pk_mul, nI_add]
theorem mY (t k : Nat) : 80 * nI t + nI k = nI (80 * t + k) := by rw [show (80 : Int32) = nI 80 from rfl, pk_mul, nI_add]
def mCnt (hl : Nat → Int32) (t : Nat) : Nat → Nat → Int32 → Int32
  | 0, _, c => c
  | r + 1, k, c => mCnt hl t r (k + 1) (c + (if hl (32 * t + k) = 0 then 0 else 1))
def mStr (sz nx en hl : Nat → Int32) (t : Nat) (w : Int32) : Int32 := if w < 0 then -1 else if w ≤ 3 then (if w = 2 then mCnt hl t 32 0 0 else if w = 0 then sz t else if w = 1 then nx t else if en t = 0 then 0 else 1) else -1
def mTxt (tx : Nat → Int32) (s t : Nat) (k : Int32) : Int32 := if 0 ≤ k then (if nI s ≤ k then -1 else tx (80 * t + k.toNatClampNeg)) else -1
def mRoom (us hr : Nat → Int32) : Nat → Nat → Nat → Nat
  | 0, _, q => q
  | r + 1, i, q => if us i = 0 then i else mRoom us hr r (i + 1) (if hr q ≤ hr i then q else i)
section MODD
variable (l : Launch) (D : va_G) (cA : Nat → ClassId) (th : Int32) (ls : Bool) (n : Nat) (ck : Int32) (ru : Nat) (tr al : Int32)

set_option maxRecDepth 100000 in
set_option maxHeartbeats 8000000 in
theorem lp_Md_stream {X : mj_X} {post : mj_R} (us nx en sz hl : Nat → Int32) (t : Nat) (ht : t < 8) (x y w : Int32) (h : mj_E zG X l D cA m_Md_stream 1 40 0 0 (fun _ => True) post) : ∀ (r k : Nat) (c : Int32), k + r = 32 → post (some (.int (mCnt hl t r k c))) [(199, cMd 0 ls n ck ru tr al), (204, cZs 4 us), (212, cIs 8 nx), (213, cZs 8 en), (214, cIs 8 sz), (216, cZs 256 hl)] → mj_W zG X 0 0 51 [(6, .int (nI k)), (5, .int c), (4, .int (nI t)), (0, .ref 199), (1, .int x), (2, .int y), (3, .int w)] [] [(199, cMd 0 ls n ck ru tr al), (204, cZs 4 us), (212, cIs 8 nx), (213, cZs 8 en), (214, cIs 8 sz), (216, cZs 256 hl)] := by
  intro r
  induction r with
  | zero =>
    intro k c hi hp
    refine mj_blk h.1 b_Md_stream_51 rfl trivial ?_
    refine mj_icge h.1 (tgt := 90) d_Md_stream_55 (by decide) (fun h1 => ?_) (fun h1 => ?_)
    · refine mj_blk h.1 b_Md_stream_90 rfl trivial ?_
      exact mj_iret h rfl d_Md_stream_92 (by decide) (by decide) hp
    · exact absurd (show nI 32 ≤ nI k from nI_le (by omega) (by omega)) h1
  | succ r ih =>
    intro k c hi hp
    refine mj_blk h.1 b_Md_stream_51 rfl trivial ?_
    refine mj_icge h.1 (tgt := 90) d_Md_stream_55 (by decide) (fun h1 => ?_) (fun h1 => ?_)
    · exact absurd ((nI_leI (a := 32) (by omega) (by omega)).mp h1) (by omega)
    · refine mj_blk h.1 b_Md_stream_58 rfl ⟨by rw [mX]; exact vp_in_nI (by omega) (by decide), trivial⟩ ?_
      first | refine mj_ifeqB h.1 (tgt := 80) d_Md_stream_73 (by decide) (fun h2 => ?_) (fun h2 => ?_) | refine mj_ifeq h.1 (tgt := 80) d_Md_stream_73 (by decide) (fun h2 => ?_) (fun h2 => ?_)
      · refine mj_blk h.1 b_Md_stream_80 rfl trivial ?_
        refine mj_blk h.1 b_Md_stream_81 rfl trivial ?_
        have h2' := h2
        rw [mX, nI_clamp (by omega)] at h2'
        have hp2 := hp
        unfold mCnt at hp2
        rw [if_pos h2'] at hp2
        rw [show nI k + 1 = nI (k + 1) from (nI_succ k).symm]
        exact ih (k + 1) _ (by omega) hp2
      · refine mj_blk h.1 b_Md_stream_76 rfl trivial ?_
        refine mj_blk h.1 b_Md_stream_81 rfl trivial ?_
        have h2' := h2
        rw [mX, nI_clamp (by omega)] at h2'
        have hp2 := hp
        unfold mCnt at hp2
        rw [if_neg h2'] at hp2
        rw [show nI k + 1 = nI (k + 1) from (nI_succ k).symm]
        exact ih (k + 1) _ (by omega) hp2
set_option maxRecDepth 100000 in
set_option maxHeartbeats 4000000 in
theorem ev_Md_stream1 (us nx en sz hl : Nat → Int32) (j y : Nat) (hj : j < 4) (hy : y < 2) (hu : ¬ us j = 0) (w : Int32) : E0_Md_stream l D cA [.ref 199, .int (nI j), .int (nI y), .int w] [(199, cMd th ls n ck ru tr al), (204, cZs 4 us), (212, cIs 8 nx), (213, cZs 8 en), (214, cIs 8 sz), (216, cZs 256 hl)] (some (.int (mStr sz nx en hl (2 * j + y) w))) [(199, cMd 0 ls n ck ru tr al), (204, cZs 4 us), (212, cIs 8 nx), (213, cZs 8 en), (214, cIs 8 sz), (216, cZs 256 hl)] := by
  refine mj_ev (lv := [(0, .ref 199), (1, .int (nI j)), (2, .int (nI y)), (3, .int w)]) (by decide +kernel) (Nat.le_of_ble_eq_true rfl) rfl (fun X h => ?_)
  refine mj_blk h.1 b_Md_stream_0 rfl trivial ?_
  refine mj_callV h zGood (ev_Md_isFlow l D cA _ _ _ _ _ _ _ _ _) v_Md_isFlow l_Md_stream_7 d_Md_stream_7 rfl ⟨by decide, by decide⟩ ⟨by decide, by decide⟩ [] rfl rfl rfl rfl rfl rfl (Nat.le_of_ble_eq_true rfl) ?_
  rintro _ _ ⟨rfl, rfl⟩
  rw [show (if ¬ nI j < 0 ∧ ¬ 4 ≤ nI j ∧ ¬ us (nI j).toNatClampNeg = 0 then (1 : Int32) else 0) = 1 from if_pos ⟨nI_pos (by omega), nI_ge (b := 4) hj (by decide), by rw [nI_clamp (by omega)]; exact hu⟩]
  refine mj_k rfl rfl ?_
  refine mj_ifeq1 h.1 (tgt := 31) d_Md_stream_10 (by decide) ?_
  refine mj_blk h.1 b_Md_stream_13 rfl trivial ?_
  refine mj_iflt h.1 (tgt := 31) d_Md_stream_14 (by decide) (fun h2 => ?_) (fun h2 => ?_)
  · exact absurd h2 (nI_pos (by omega))
  · refine mj_blk h.1 b_Md_stream_17 rfl trivial ?_
    refine mj_icgt h.1 (tgt := 31) d_Md_stream_19 (by decide) (fun h3 => ?_) (fun h3 => ?_)
    · exact absurd ((nI_ltI (a := 1) (by decide) (by omega)).mp h3) (by omega)
    · refine mj_blk h.1 b_Md_stream_22 rfl trivial ?_
      refine mj_iflt h.1 (tgt := 31) d_Md_stream_23 (by decide) (fun h4 => ?_) (fun h4 => ?_)
      · refine mj_blk h.1 b_Md_stream_31 rfl trivial ?_
        exact mj_iret h rfl d_Md_stream_32 (by decide) (by decide) ⟨by unfold mStr; rw [if_pos h4], rfl⟩
      · refine mj_blk h.1 b_Md_stream_26 rfl trivial ?_
        refine mj_icle h.1 (tgt := 33) d_Md_stream_28 (by decide) (fun h5 => ?_) (fun h5 => ?_)
        · refine mj_blk h.1 b_Md_stream_33 rfl trivial ?_
          rw [mT]
          refine mj_icne h.1 (tgt := 93) d_Md_stream_42 (by decide) (fun h6 => ?_) (fun h6 => ?_)
          · refine mj_blk h.1 b_Md_stream_93 rfl trivial ?_
            first | refine mj_ifneB h.1 (tgt := 107) d_Md_stream_94 (by decide) (fun h7 => ?_) (fun h7 => ?_) | refine mj_ifne h.1 (tgt := 107) d_Md_stream_94 (by decide) (fun h7 => ?_) (fun h7 => ?_)
            · refine mj_blk h.1 b_Md_stream_107 rfl trivial ?_
              refine mj_icne h.1 (tgt := 122) d_Md_stream_109 (by decide) (fun h8 => ?_) (fun h8 => ?_)
              · refine mj_blk h.1 b_Md_stream_122 rfl ⟨vp_in_nI (by omega) (by decide), trivial⟩ ?_
                first | refine mj_ifeqB h.1 (tgt := 136) d_Md_stream_129 (by decide) (fun h9 => ?_) (fun h9 => ?_) | refine mj_ifeq h.1 (tgt := 136) d_Md_stream_129 (by decide) (fun h9 => ?_) (fun h9 => ?_)
                · refine mj_blk h.1 b_Md_stream_136 rfl trivial ?_
                  exact mj_iret h rfl d_Md_stream_137 (by decide) (by decide) ⟨by unfold mStr; rw [if_neg h4, if_pos h5, if_neg h6, if_neg h7, if_neg h8, if_pos (show en (2 * j + y) = 0 by rw [nI_clamp (by omega)] at h9; exact h9)], rfl⟩
                · refine mj_blk h.1 b_Md_stream_132 rfl trivial ?_
                  exact mj_iret h rfl d_Md_stream_137 (by decide) (by decide) ⟨by unfold mStr; rw [if_neg h4, if_pos h5, if_neg h6, if_neg h7, if_neg h8, if_neg (show ¬ en (2 * j + y) = 0 by rw [nI_clamp (by omega)] at h9; exact h9)], rfl⟩
              · refine mj_blk h.1 b_Md_stream_112 rfl ⟨vp_in_nI (by omega) (by decide), trivial⟩ ?_
                exact mj_iret h rfl d_Md_stream_137 (by decide) (by decide) ⟨by unfold mStr; rw [if_neg h4, if_pos h5, if_neg h6, if_neg h7, if_pos h8]; rw [nI_clamp (by omega)], rfl⟩
            · refine mj_blk h.1 b_Md_stream_97 rfl ⟨vp_in_nI (by omega) (by decide), trivial⟩ ?_
              exact mj_iret h rfl d_Md_stream_137 (by decide) (by decide) ⟨by unfold mStr; rw [if_neg h4, if_pos h5, if_neg h6, if_pos h7]; rw [nI_clamp (by omega)], rfl⟩
          · refine mj_blk h.1 b_Md_stream_45 rfl trivial ?_
            exact lp_Md_stream l D cA ls n ck ru tr al us nx en sz hl (2 * j + y) (by omega) _ _ w h 32 0 0 (by omega) ⟨by unfold mStr; rw [if_neg h4, if_pos h5, if_pos h6], rfl⟩
        · refine mj_blk h.1 b_Md_stream_31 rfl trivial ?_
          exact mj_iret h rfl d_Md_stream_32 (by decide) (by decide) ⟨by unfold mStr; rw [if_neg h4, if_neg h5], rfl⟩
set_option maxRecDepth 100000 in
set_option maxHeartbeats 4000000 in
theorem ev_Md_stream0 (us nx en sz hl : Nat → Int32) (k : Int32) (hk : ¬ (¬ k < 0 ∧ ¬ 4 ≤ k ∧ ¬ us k.toNatClampNeg = 0)) (y w : Int32) : E0_Md_stream l D cA [.ref 199, .int k, .int y, .int w] [(199, cMd th ls n ck ru tr al), (204, cZs 4 us), (212, cIs 8 nx), (213, cZs 8 en), (214, cIs 8 sz), (216, cZs 256 hl)] (some (.int (-1))) [(199, cMd 0 ls n ck ru tr al), (204, cZs 4 us), (212, cIs 8 nx), (213, cZs 8 en), (214, cIs 8 sz), (216, cZs 256 hl)] := by
  refine mj_ev (lv := [(0, .ref 199), (1, .int k), (2, .int y), (3, .int w)]) (by decide +kernel) (Nat.le_of_ble_eq_true rfl) rfl (fun X h => ?_)
  refine mj_blk h.1 b_Md_stream_0 rfl trivial ?_
  refine mj_callV h zGood (ev_Md_isFlow l D cA _ _ _ _ _ _ _ _ _) v_Md_isFlow l_Md_stream_7 d_Md_stream_7 rfl ⟨by decide, by decide⟩ ⟨by decide, by decide⟩ [] rfl rfl rfl rfl rfl rfl (Nat.le_of_ble_eq_true rfl) ?_
  rintro _ _ ⟨rfl, rfl⟩
  rw [if_neg hk]
  refine mj_k rfl rfl ?_
  refine mj_ifeq0 h.1 (tgt := 31) d_Md_stream_10 (by decide) ?_
  refine mj_blk h.1 b_Md_stream_31 rfl trivial ?_
  exact mj_iret h rfl d_Md_stream_32 (by decide) (by decide) ⟨rfl, rfl⟩
set_option maxRecDepth 100000 in
set_option maxHeartbeats 4000000 in
theorem ev_Md_stream2 (us nx en sz hl : Nat → Int32) (j : Nat) (hj : j < 4) (hu : ¬ us j = 0) (y : Int32) (hy : y < 0 ∨ 1 < y) (w : Int32) : E0_Md_stream l D cA [.ref 199, .int (nI j), .int y, .int w] [(199, cMd th ls n ck ru tr al), (204, cZs 4 us), (212, cIs 8 nx), (213, cZs 8 en), (214, cIs 8 sz), (216, cZs 256 hl)] (some (.int (-1))) [(199, cMd 0 ls n ck ru tr al), (204, cZs 4 us), (212, cIs 8 nx), (213, cZs 8 en), (214, cIs 8 sz), (216, cZs 256 hl)] := by
  refine mj_ev (lv := [(0, .ref 199), (1, .int (nI j)), (2, .int y), (3, .int w)]) (by decide +kernel) (Nat.le_of_ble_eq_true rfl) rfl (fun X h => ?_)
  refine mj_blk h.1 b_Md_stream_0 rfl trivial ?_
  refine mj_callV h zGood (ev_Md_isFlow l D cA _ _ _ _ _ _ _ _ _) v_Md_isFlow l_Md_stream_7 d_Md_stream_7 rfl ⟨by decide, by decide⟩ ⟨by decide, by decide⟩ [] rfl rfl rfl rfl rfl rfl (Nat.le_of_ble_eq_true rfl) ?_
  rintro _ _ ⟨rfl, rfl⟩
  rw [show (if ¬ nI j < 0 ∧ ¬ 4 ≤ nI j ∧ ¬ us (nI j).toNatClampNeg = 0 then (1 : Int32) else 0) = 1 from if_pos ⟨nI_pos (by omega), nI_ge (b := 4) hj (by decide), by rw [nI_clamp (by omega)]; exact hu⟩]
  refine mj_k rfl rfl ?_
  refine mj_ifeq1 h.1 (tgt := 31) d_Md_stream_10 (by decide) ?_
  refine mj_blk h.1 b_Md_stream_13 rfl trivial ?_
  refine mj_iflt h.1 (tgt := 31) d_Md_stream_14 (by decide) (fun h2 => ?_) (fun h2 => ?_)
  · refine mj_blk h.1 b_Md_stream_31 rfl trivial ?_
    exact mj_iret h rfl d_Md_stream_32 (by decide) (by decide) ⟨rfl, rfl⟩
  · refine mj_blk h.1 b_Md_stream_17 rfl trivial ?_
    refine mj_icgt h.1 (tgt := 31) d_Md_stream_19 (by decide) (fun h3 => ?_) (fun h3 => ?_)
    · refine mj_blk h.1 b_Md_stream_31 rfl trivial ?_
      exact mj_iret h rfl d_Md_stream_32 (by decide) (by decide) ⟨rfl, rfl⟩
    · exact absurd hy (fun z => z.elim h2 h3)
set_option maxRecDepth 100000 in
set_option maxHeartbeats 4000000 in
theorem ev_Md_text1 (us sz tx : Nat → Int32) (j y : Nat) (hj : j < 4) (hy : y < 2) (hu : ¬ us j = 0) (s : Nat) (hs9 : s ≤ 80) (hsz : sz (2 * j + y) = nI s) (k : Int32) : E0_Md_text l D cA [.ref 199, .int (nI j), .int (nI y), .int k] [(199, cMd th ls n ck ru tr al), (204, cZs 4 us), (214, cIs 8 sz), (215, cIs 640 tx)] (some (.int (mTxt tx s (2 * j + y) k))) [(199, cMd 0 ls n ck ru tr al), (204, cZs 4 us), (214, cIs 8 sz), (215, cIs 640 tx)] := by
  refine mj_ev (lv := [(0, .ref 199), (1, .int (nI j)), (2, .int (nI y)), (3, .int k)]) (by decide +kernel) (Nat.le_of_ble_eq_true rfl) rfl (fun X h => ?_)
  refine mj_blk h.1 b_Md_text_0 rfl trivial ?_
  refine mj_callV h zGood (ev_Md_isFlow l D cA _ _ _ _ _ _ _ _ _) v_Md_isFlow l_Md_text_7 d_Md_text_7 rfl ⟨by decide, by decide⟩ ⟨by decide, by decide⟩ [] rfl rfl rfl rfl rfl rfl (Nat.le_of_ble_eq_true rfl) ?_
  rintro _ _ ⟨rfl, rfl⟩
  rw [show (if ¬ nI j < 0 ∧ ¬ 4 ≤ nI j ∧ ¬ us (nI j).toNatClampNeg = 0 then (1 : Int32) else 0) = 1 from if_pos ⟨nI_pos (by omega), nI_ge (b := 4) hj (by decide), by rw [nI_clamp (by omega)]; exact hu⟩]
  refine mj_k rfl rfl ?_
  refine mj_ifeq1 h.1 (tgt := 26) d_Md_text_10 (by decide) ?_
  refine mj_blk h.1 b_Md_text_13 rfl trivial ?_
  refine mj_iflt h.1 (tgt := 26) d_Md_text_14 (by decide) (fun h2 => ?_) (fun h2 => ?_)
  · exact absurd h2 (nI_pos (by omega))
  · refine mj_blk h.1 b_Md_text_17 rfl trivial ?_
    refine mj_icgt h.1 (tgt := 26) d_Md_text_19 (by decide) (fun h3 => ?_) (fun h3 => ?_)
    · exact absurd ((nI_ltI (a := 1) (by decide) (by omega)).mp h3) (by omega)
    · refine mj_blk h.1 b_Md_text_22 rfl trivial ?_
      refine mj_ifge h.1 (tgt := 28) d_Md_text_23 (by decide) (fun h4 => ?_) (fun h4 => ?_)
      · refine mj_blk h.1 b_Md_text_28 rfl ⟨by rw [mT]; exact vp_in_nI (by omega) (by decide), trivial⟩ ?_
        rw [mT, nI_clamp (by omega), hsz]
        refine mj_icge h.1 (tgt := 60) d_Md_text_39 (by decide) (fun h5 => ?_) (fun h5 => ?_)
        · refine mj_blk h.1 b_Md_text_60 rfl trivial ?_
          exact mj_iret h rfl d_Md_text_61 (by decide) (by decide) ⟨by unfold mTxt; rw [if_pos h4, if_pos h5], rfl⟩
        · obtain ⟨i, hi, he⟩ := nI_of (Int32.not_lt.mpr h4)
          have hi2 : i < s := (nI_ltI hi (by omega)).mp (by rw [← he]; exact Int32.not_le.mp h5)
          refine mj_blk h.1 b_Md_text_42 rfl ⟨by rw [mT, he, mY]; exact vp_in_nI (by omega) (by decide), trivial⟩ ?_
          exact mj_iret h rfl d_Md_text_61 (by decide) (by decide) ⟨by unfold mTxt; rw [if_pos h4, if_neg h5]; rw [mT, he, mY, nI_clamp (by omega), nI_clamp (by omega)], rfl⟩
      · refine mj_blk h.1 b_Md_text_26 rfl trivial ?_
        exact mj_iret h rfl d_Md_text_27 (by decide) (by decide) ⟨by unfold mTxt; rw [if_neg h4], rfl⟩
set_option maxRecDepth 100000 in
set_option maxHeartbeats 4000000 in
theorem ev_Md_text0 (us sz tx : Nat → Int32) (k : Int32) (hk : ¬ (¬ k < 0 ∧ ¬ 4 ≤ k ∧ ¬ us k.toNatClampNeg = 0)) (y w : Int32) : E0_Md_text l D cA [.ref 199, .int k, .int y, .int w] [(199, cMd th ls n ck ru tr al), (204, cZs 4 us), (214, cIs 8 sz), (215, cIs 640 tx)] (some (.int (-1))) [(199, cMd 0 ls n ck ru tr al), (204, cZs 4 us), (214, cIs 8 sz), (215, cIs 640 tx)] := by
  refine mj_ev (lv := [(0, .ref 199), (1, .int k), (2, .int y), (3, .int w)]) (by decide +kernel) (Nat.le_of_ble_eq_true rfl) rfl (fun X h => ?_)
  refine mj_blk h.1 b_Md_text_0 rfl trivial ?_
  refine mj_callV h zGood (ev_Md_isFlow l D cA _ _ _ _ _ _ _ _ _) v_Md_isFlow l_Md_text_7 d_Md_text_7 rfl ⟨by decide, by decide⟩ ⟨by decide, by decide⟩ [] rfl rfl rfl rfl rfl rfl (Nat.le_of_ble_eq_true rfl) ?_
  rintro _ _ ⟨rfl, rfl⟩
  rw [if_neg hk]
  refine mj_k rfl rfl ?_
  refine mj_ifeq0 h.1 (tgt := 26) d_Md_text_10 (by decide) ?_
  refine mj_blk h.1 b_Md_text_26 rfl trivial ?_
  exact mj_iret h rfl d_Md_text_27 (by decide) (by decide) ⟨rfl, rfl⟩
set_option maxRecDepth 100000 in
set_option maxHeartbeats 4000000 in
theorem ev_Md_text2 (us sz tx : Nat → Int32) (j : Nat) (hj : j < 4) (hu : ¬ us j = 0) (y : Int32) (hy : y < 0 ∨ 1 < y) (w : Int32) : E0_Md_text l D cA [.ref 199, .int (nI j), .int y, .int w] [(199, cMd th ls n ck ru tr al), (204, cZs 4 us), (214, cIs 8 sz), (215, cIs 640 tx)] (some (.int (-1))) [(199, cMd 0 ls n ck ru tr al), (204, cZs 4 us), (214, cIs 8 sz), (215, cIs 640 tx)] := by
  refine mj_ev (lv := [(0, .ref 199), (1, .int (nI j)), (2, .int y), (3, .int w)]) (by decide +kernel) (Nat.le_of_ble_eq_true rfl) rfl (fun X h => ?_)
  refine mj_blk h.1 b_Md_text_0 rfl trivial ?_
  refine mj_callV h zGood (ev_Md_isFlow l D cA _ _ _ _ _ _ _ _ _) v_Md_isFlow l_Md_text_7 d_Md_text_7 rfl ⟨by decide, by decide⟩ ⟨by decide, by decide⟩ [] rfl rfl rfl rfl rfl rfl (Nat.le_of_ble_eq_true rfl) ?_
  rintro _ _ ⟨rfl, rfl⟩
  rw [show (if ¬ nI j < 0 ∧ ¬ 4 ≤ nI j ∧ ¬ us (nI j).toNatClampNeg = 0 then (1 : Int32) else 0) = 1 from if_pos ⟨nI_pos (by omega), nI_ge (b := 4) hj (by decide), by rw [nI_clamp (by omega)]; exact hu⟩]
  refine mj_k rfl rfl ?_
  refine mj_ifeq1 h.1 (tgt := 26) d_Md_text_10 (by decide) ?_
  refine mj_blk h.1 b_Md_text_13 rfl trivial ?_
  refine mj_iflt h.1 (tgt := 26) d_Md_text_14 (by decide) (fun h2 => ?_) (fun h2 => ?_)
  · refine mj_blk h.1 b_Md_text_26 rfl trivial ?_
    exact mj_iret h rfl d_Md_text_27 (by decide) (by decide) ⟨rfl, rfl⟩
  · refine mj_blk h.1 b_Md_text_17 rfl trivial ?_
    refine mj_icgt h.1 (tgt := 26) d_Md_text_19 (by decide) (fun h3 => ?_) (fun h3 => ?_)
    · refine mj_blk h.1 b_Md_text_26 rfl trivial ?_
      exact mj_iret h rfl d_Md_text_27 (by decide) (by decide) ⟨rfl, rfl⟩
    · exact absurd hy (fun z => z.elim h2 h3)
set_option maxRecDepth 100000 in
set_option maxHeartbeats 8000000 in
theorem lp_Md_room {X : mj_X} {post : mj_R} (us hr : Nat → Int32) (h : mj_E zG X l D cA m_Md_room 0 0 0 0 (fun _ => True) post) : ∀ (r i q : Nat), i + r = 4 → q < 4 → post (some (.int (nI (mRoom us hr r i q)))) [(199, cMd th ls n ck ru tr al), (204, cZs 4 us), (209, cIs 4 hr)] → mj_W zG X 0 0 4 [(2, .int (nI i)), (1, .int (nI q)), (0, .ref 199)] [] [(199, cMd th ls n ck ru tr al), (204, cZs 4 us), (209, cIs 4 hr)] := by
  intro r
  induction r with
  | zero =>
    intro i q hi hq hp
    refine mj_blk h.1 b_Md_room_4 rfl trivial ?_
    refine mj_icge h.1 (tgt := 47) d_Md_room_6 (by decide) (fun h1 => ?_) (fun h1 => ?_)
    · refine mj_blk h.1 b_Md_room_47 rfl trivial ?_
      exact mj_iret h rfl d_Md_room_48 (by decide) (by decide) hp
    · exact absurd (show nI 4 ≤ nI i from nI_le (by omega) (by omega)) h1
  | succ r ih =>
    intro i q hi hq hp
    refine mj_blk h.1 b_Md_room_4 rfl trivial ?_
    refine mj_icge h.1 (tgt := 47) d_Md_room_6 (by decide) (fun h1 => ?_) (fun h1 => ?_)
    · exact absurd ((nI_leI (a := 4) (by omega) (by omega)).mp h1) (by omega)
    · refine mj_blk h.1 b_Md_room_9 rfl ⟨vp_in_nI (by omega) (by decide), trivial⟩ ?_
      first | refine mj_ifneB h.1 (tgt := 20) d_Md_room_15 (by decide) (fun h2 => ?_) (fun h2 => ?_) | refine mj_ifne h.1 (tgt := 20) d_Md_room_15 (by decide) (fun h2 => ?_) (fun h2 => ?_)
      · refine mj_blk h.1 b_Md_room_20 rfl ⟨vp_in_nI (by omega) (by decide), vp_in_nI (by omega) (by decide), trivial⟩ ?_
        refine mj_icge h.1 (tgt := 39) d_Md_room_32 (by decide) (fun h3 => ?_) (fun h3 => ?_)
        · refine mj_blk h.1 b_Md_room_39 rfl trivial ?_
          refine mj_blk h.1 b_Md_room_40 rfl trivial ?_
          have h2' := h2
          rw [nI_clamp (by omega)] at h2'
          have h3' := h3
          rw [nI_clamp (by omega), nI_clamp (by omega)] at h3'
          have hp2 := hp
          unfold mRoom at hp2
          rw [if_neg h2', if_pos h3'] at hp2
          rw [show nI i + 1 = nI (i + 1) from (nI_succ i).symm]
          exact ih (i + 1) _ (by omega) (by omega) hp2
        · refine mj_blk h.1 b_Md_room_35 rfl trivial ?_
          refine mj_blk h.1 b_Md_room_40 rfl trivial ?_
          have h2' := h2
          rw [nI_clamp (by omega)] at h2'
          have h3' := h3
          rw [nI_clamp (by omega), nI_clamp (by omega)] at h3'
          have hp2 := hp
          unfold mRoom at hp2
          rw [if_neg h2', if_neg h3'] at hp2
          rw [show nI i + 1 = nI (i + 1) from (nI_succ i).symm]
          exact ih (i + 1) _ (by omega) (by omega) hp2
      · have h2' := h2
        rw [nI_clamp (by omega)] at h2'
        have hp2 := hp
        unfold mRoom at hp2
        rw [if_pos h2'] at hp2
        refine mj_blk h.1 b_Md_room_18 rfl trivial ?_
        exact mj_iret h rfl d_Md_room_19 (by decide) (by decide) hp2
set_option maxRecDepth 100000 in
set_option maxHeartbeats 4000000 in
theorem ev_Md_room (us hr : Nat → Int32) : E0_Md_room l D cA [.ref 199] [(199, cMd th ls n ck ru tr al), (204, cZs 4 us), (209, cIs 4 hr)] (some (.int (nI (mRoom us hr 4 0 0)))) [(199, cMd th ls n ck ru tr al), (204, cZs 4 us), (209, cIs 4 hr)] := by
  refine mj_ev (lv := [(0, .ref 199)]) (by decide +kernel) (Nat.le_of_ble_eq_true rfl) rfl (fun X h => ?_)
  refine mj_blk h.1 b_Md_room_0 rfl trivial ?_
  exact lp_Md_room l D cA th ls n ck ru tr al us hr h 4 0 0 (by omega) (by omega) ⟨rfl, rfl⟩
end MODD
