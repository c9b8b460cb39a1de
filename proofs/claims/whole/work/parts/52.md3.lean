/-! The reference: reads (by program: wip/whole/src_md3.py) -/
abbrev cZs (k : Nat) (g : Nat → Int32) : mj_C := .inl (1, k, .inl g)
theorem vp_in4 {k : Int32} (h1 : ¬ k < 0) (h2 : ¬ 4 ≤ k) : vp_in k 4 := by
  obtain ⟨j, hj, rfl⟩ := nI_of h1
  have h3 : j < 4 := (nI_ltI (b := 4) hj (by decide)).mp (Int32.not_le.mp h2)
  exact vp_in_nI h3 (by decide)
def mUp (c : Int32) : Int32 := if c < 97 then c else if 122 < c then c else c - 32
def mAl (rows : Nat → Int32) (al k w : Int32) : Int32 := if k < 0 then -1 else if 24 ≤ k then -1 else if al ≤ k then -1 else if w < 0 then -1 else if w ≤ 3 then rows (4 * k + w).toNatClampNeg else -1
theorem mAl_in {k w : Int32} (h1 : ¬ k < 0) (h2 : ¬ 24 ≤ k) (h3 : ¬ w < 0) (h4 : w ≤ 3) : vp_in (4 * k + w) 96 := by
  obtain ⟨j, hj, rfl⟩ := nI_of h1
  obtain ⟨i, hi, rfl⟩ := nI_of h3
  have h5 : j < 24 := (nI_ltI (b := 24) hj (by decide)).mp (Int32.not_le.mp h2)
  have h6 : i ≤ 3 := (nI_leI (b := 3) hi (by decide)).mp h4
  rw [show (4 : Int32) = nI 4 from rfl, pk_mul, nI_add]
  exact vp_in_nI (by omega) (by decide)
section MODC
variable (l : Launch) (D : va_G) (cA : Nat → ClassId) (th : Int32) (ls : Bool) (n : Nat) (ck : Int32) (ru : Nat) (tr al : Int32)

set_option maxRecDepth 100000 in
set_option maxHeartbeats 4000000 in
theorem ev_Md_upper (c : Int32) : E0_Md_upper l D cA [.int c] [] (some (.int (mUp c))) [] := by
  refine mj_ev (lv := [(0, .int c)]) (by decide +kernel) (Nat.le_of_ble_eq_true rfl) rfl (fun X h => ?_)
  refine mj_blk h.1 b_Md_upper_0 rfl trivial ?_
  refine mj_iclt h.1 (tgt := 19) d_Md_upper_3 (by decide) (fun h1 => ?_) (fun h1 => ?_)
  · refine mj_blk h.1 b_Md_upper_19 rfl trivial ?_
    exact mj_iret h rfl d_Md_upper_20 (by decide) (by decide) ⟨by unfold mUp; rw [if_pos h1], rfl⟩
  · refine mj_blk h.1 b_Md_upper_6 rfl trivial ?_
    refine mj_icgt h.1 (tgt := 19) d_Md_upper_9 (by decide) (fun h2 => ?_) (fun h2 => ?_)
    · refine mj_blk h.1 b_Md_upper_19 rfl trivial ?_
      exact mj_iret h rfl d_Md_upper_20 (by decide) (by decide) ⟨by unfold mUp; rw [if_neg h1, if_pos h2], rfl⟩
    · refine mj_blk h.1 b_Md_upper_12 rfl trivial ?_
      exact mj_iret h rfl d_Md_upper_20 (by decide) (by decide) ⟨by unfold mUp; rw [if_neg h1, if_neg h2], rfl⟩
set_option maxRecDepth 100000 in
set_option maxHeartbeats 4000000 in
theorem ev_Md_isFlow (us : Nat → Int32) (k : Int32) : E0_Md_isFlow l D cA [.ref 199, .int k] [(199, cMd th ls n ck ru tr al), (204, cZs 4 us)] (some (.int (if ¬ k < 0 ∧ ¬ 4 ≤ k ∧ ¬ us k.toNatClampNeg = 0 then 1 else 0))) [(199, cMd th ls n ck ru tr al), (204, cZs 4 us)] := by
  refine mj_ev (lv := [(0, .ref 199), (1, .int k)]) (by decide +kernel) (Nat.le_of_ble_eq_true rfl) rfl (fun X h => ?_)
  refine mj_blk h.1 b_Md_isFlow_0 rfl trivial ?_
  refine mj_iflt h.1 (tgt := 35) d_Md_isFlow_1 (by decide) (fun h1 => ?_) (fun h1 => ?_)
  · refine mj_blk h.1 b_Md_isFlow_35 rfl trivial ?_
    exact mj_zret h rfl (by first | exact Or.inl rfl | exact Or.inr rfl) d_Md_isFlow_36 (by decide) (by decide) ⟨by rw [if_neg (fun z => z.1 h1)], rfl⟩
  · refine mj_blk h.1 b_Md_isFlow_4 rfl trivial ?_
    refine mj_icge h.1 (tgt := 35) d_Md_isFlow_6 (by decide) (fun h2 => ?_) (fun h2 => ?_)
    · refine mj_blk h.1 b_Md_isFlow_35 rfl trivial ?_
      exact mj_zret h rfl (by first | exact Or.inl rfl | exact Or.inr rfl) d_Md_isFlow_36 (by decide) (by decide) ⟨by rw [if_neg (fun z => z.2.1 h2)], rfl⟩
    · refine mj_blk h.1 b_Md_isFlow_9 rfl trivial ?_
      refine mj_iflt h.1 (tgt := 26) d_Md_isFlow_14 (by decide) (fun h3 => ?_) (fun h3 => ?_)
      · exact absurd h3 h1
      · refine mj_blk h.1 b_Md_isFlow_17 rfl trivial ?_
        refine mj_icge h.1 (tgt := 26) d_Md_isFlow_19 (by decide) (fun h4 => ?_) (fun h4 => ?_)
        · exact absurd h4 h2
        · refine mj_blk h.1 b_Md_isFlow_22 rfl trivial ?_
          refine mj_blk h.1 b_Md_isFlow_27 rfl ⟨vp_in4 h1 h2, trivial⟩ ?_
          first | refine mj_ifeqB h.1 (tgt := 35) d_Md_isFlow_28 (by decide) (fun h5 => ?_) (fun h5 => ?_) | refine mj_ifeq h.1 (tgt := 35) d_Md_isFlow_28 (by decide) (fun h5 => ?_) (fun h5 => ?_)
          · refine mj_blk h.1 b_Md_isFlow_35 rfl trivial ?_
            exact mj_zret h rfl (by first | exact Or.inl rfl | exact Or.inr rfl) d_Md_isFlow_36 (by decide) (by decide) ⟨by rw [if_neg (fun z => z.2.2 h5)], rfl⟩
          · refine mj_blk h.1 b_Md_isFlow_31 rfl trivial ?_
            exact mj_zret h rfl (by first | exact Or.inl rfl | exact Or.inr rfl) d_Md_isFlow_36 (by decide) (by decide) ⟨by rw [if_pos ⟨h1, h2, h5⟩], rfl⟩
set_option maxRecDepth 100000 in
set_option maxHeartbeats 4000000 in
theorem ev_Md_alerts : E0_Md_alerts l D cA [.ref 199] [(199, cMd th ls n ck ru tr al)] (some (.int al)) [(199, cMd 0 ls n ck ru tr al)] := by
  refine mj_ev (lv := [(0, .ref 199)]) (by decide +kernel) (Nat.le_of_ble_eq_true rfl) rfl (fun X h => ?_)
  refine mj_blk h.1 b_Md_alerts_0 rfl trivial ?_
  exact mj_iret h rfl d_Md_alerts_9 (by decide) (by decide) ⟨rfl, rfl⟩
set_option maxRecDepth 100000 in
set_option maxHeartbeats 4000000 in
theorem ev_Md_alert (rows : Nat → Int32) (k w : Int32) : E0_Md_alert l D cA [.ref 199, .int k, .int w] [(199, cMd th ls n ck ru tr al), (232, cIs 96 rows)] (some (.int (mAl rows al k w))) [(199, cMd 0 ls n ck ru tr al), (232, cIs 96 rows)] := by
  refine mj_ev (lv := [(0, .ref 199), (1, .int k), (2, .int w)]) (by decide +kernel) (Nat.le_of_ble_eq_true rfl) rfl (fun X h => ?_)
  refine mj_blk h.1 b_Md_alert_0 rfl trivial ?_
  refine mj_iflt h.1 (tgt := 32) d_Md_alert_6 (by decide) (fun h1 => ?_) (fun h1 => ?_)
  · refine mj_blk h.1 b_Md_alert_32 rfl trivial ?_
    exact mj_iret h rfl d_Md_alert_33 (by decide) (by decide) ⟨by unfold mAl; rw [if_pos h1], rfl⟩
  · refine mj_blk h.1 b_Md_alert_9 rfl trivial ?_
    refine mj_icge h.1 (tgt := 32) d_Md_alert_12 (by decide) (fun h2 => ?_) (fun h2 => ?_)
    · refine mj_blk h.1 b_Md_alert_32 rfl trivial ?_
      exact mj_iret h rfl d_Md_alert_33 (by decide) (by decide) ⟨by unfold mAl; rw [if_neg h1, if_pos h2], rfl⟩
    · refine mj_blk h.1 b_Md_alert_15 rfl trivial ?_
      refine mj_icge h.1 (tgt := 32) d_Md_alert_20 (by decide) (fun h3 => ?_) (fun h3 => ?_)
      · refine mj_blk h.1 b_Md_alert_32 rfl trivial ?_
        exact mj_iret h rfl d_Md_alert_33 (by decide) (by decide) ⟨by unfold mAl; rw [if_neg h1, if_neg h2, if_pos h3], rfl⟩
      · refine mj_blk h.1 b_Md_alert_23 rfl trivial ?_
        refine mj_iflt h.1 (tgt := 32) d_Md_alert_24 (by decide) (fun h4 => ?_) (fun h4 => ?_)
        · refine mj_blk h.1 b_Md_alert_32 rfl trivial ?_
          exact mj_iret h rfl d_Md_alert_33 (by decide) (by decide) ⟨by unfold mAl; rw [if_neg h1, if_neg h2, if_neg h3, if_pos h4], rfl⟩
        · refine mj_blk h.1 b_Md_alert_27 rfl trivial ?_
          refine mj_icle h.1 (tgt := 34) d_Md_alert_29 (by decide) (fun h5 => ?_) (fun h5 => ?_)
          · refine mj_blk h.1 b_Md_alert_34 rfl ⟨mAl_in h1 h2 h4 h5, trivial⟩ ?_
            exact mj_iret h rfl d_Md_alert_44 (by decide) (by decide) ⟨by unfold mAl; rw [if_neg h1, if_neg h2, if_neg h3, if_neg h4, if_pos h5], rfl⟩
          · refine mj_blk h.1 b_Md_alert_32 rfl trivial ?_
            exact mj_iret h rfl d_Md_alert_33 (by decide) (by decide) ⟨by unfold mAl; rw [if_neg h1, if_neg h2, if_neg h3, if_neg h4, if_neg h5], rfl⟩
def mSt (c : Int32) (u a b : Int32) : Int32 := c + (if ¬ u = 0 ∧ ¬ a ≤ b then 1 else 0)
def mAft (us hr : Nat → Int32) (b : Int32) : Nat → Nat → Int32 → Int32
  | 0, _, c => c
  | r + 1, j, c => mAft us hr b r (j + 1) (mSt c (us j) (hr j) b)
def mFlw (us ch cp sh sp hr : Nat → Int32) (j : Nat) (w : Int32) : Int32 := if w < 0 then -1 else if w ≤ 4 then (if w = 4 then mAft us hr (hr j) 4 0 0 else if w = 0 then ch j else if w = 1 then cp j else if w = 2 then sh j else sp j) else -1
set_option maxRecDepth 100000 in
set_option maxHeartbeats 8000000 in
theorem lp_Md_flow {X : mj_X} {post : mj_R} (us ch cp sh sp hr : Nat → Int32) (j : Nat) (hj : j < 4) (w : Int32) (h : mj_E zG X l D cA m_Md_flow 1 40 0 0 (fun _ => True) post) : ∀ (r i : Nat) (c : Int32), i + r = 4 → post (some (.int (mAft us hr (hr j) r i c))) [(199, cMd 0 ls n ck ru tr al), (204, cZs 4 us), (205, cIs 4 ch), (206, cIs 4 cp), (207, cIs 4 sh), (208, cIs 4 sp), (209, cIs 4 hr)] → mj_W zG X 0 0 34 [(4, .int (nI i)), (3, .int c), (0, .ref 199), (1, .int (nI j)), (2, .int w)] [] [(199, cMd 0 ls n ck ru tr al), (204, cZs 4 us), (205, cIs 4 ch), (206, cIs 4 cp), (207, cIs 4 sh), (208, cIs 4 sp), (209, cIs 4 hr)] := by
  intro r
  induction r with
  | zero =>
    intro i c hi hp
    refine mj_blk h.1 b_Md_flow_34 rfl trivial ?_
    refine mj_icge h.1 (tgt := 80) d_Md_flow_37 (by decide) (fun h1 => ?_) (fun h1 => ?_)
    · refine mj_blk h.1 b_Md_flow_80 rfl trivial ?_
      exact mj_iret h rfl d_Md_flow_81 (by decide) (by decide) hp
    · exact absurd (show nI 4 ≤ nI i from nI_le (by omega) (by omega)) h1
  | succ r ih =>
    intro i c hi hp
    refine mj_blk h.1 b_Md_flow_34 rfl trivial ?_
    refine mj_icge h.1 (tgt := 80) d_Md_flow_37 (by decide) (fun h1 => ?_) (fun h1 => ?_)
    · exact absurd ((nI_leI (a := 4) (by omega) (by omega)).mp h1) (by omega)
    · refine mj_blk h.1 b_Md_flow_40 rfl ⟨vp_in_nI (by omega) (by decide), trivial⟩ ?_
      first | refine mj_ifeqB h.1 (tgt := 71) d_Md_flow_48 (by decide) (fun h2 => ?_) (fun h2 => ?_) | refine mj_ifeq h.1 (tgt := 71) d_Md_flow_48 (by decide) (fun h2 => ?_) (fun h2 => ?_)
      · refine mj_blk h.1 b_Md_flow_71 rfl trivial ?_
        refine mj_blk h.1 b_Md_flow_72 rfl trivial ?_
        have h2' := h2
        rw [nI_clamp (by omega)] at h2'
        have hp2 := hp
        unfold mAft mSt at hp2
        rw [if_neg (fun z => z.1 h2')] at hp2
        rw [show nI i + 1 = nI (i + 1) from (nI_succ i).symm]
        exact ih (i + 1) _ (by omega) hp2
      · refine mj_blk h.1 b_Md_flow_51 rfl ⟨vp_in_nI hj (by decide), vp_in_nI (by omega) (by decide), trivial⟩ ?_
        refine mj_icle h.1 (tgt := 71) d_Md_flow_64 (by decide) (fun h3 => ?_) (fun h3 => ?_)
        · refine mj_blk h.1 b_Md_flow_71 rfl trivial ?_
          refine mj_blk h.1 b_Md_flow_72 rfl trivial ?_
          have h2' := h2
          rw [nI_clamp (by omega)] at h2'
          have h3' := h3
          rw [nI_clamp (by omega), nI_clamp (by omega)] at h3'
          have hp2 := hp
          unfold mAft mSt at hp2
          rw [if_neg (fun z => z.2 h3')] at hp2
          rw [show nI i + 1 = nI (i + 1) from (nI_succ i).symm]
          exact ih (i + 1) _ (by omega) hp2
        · refine mj_blk h.1 b_Md_flow_67 rfl trivial ?_
          refine mj_blk h.1 b_Md_flow_72 rfl trivial ?_
          have h2' := h2
          rw [nI_clamp (by omega)] at h2'
          have h3' := h3
          rw [nI_clamp (by omega), nI_clamp (by omega)] at h3'
          have hp2 := hp
          unfold mAft mSt at hp2
          rw [if_pos ⟨h2', h3'⟩] at hp2
          rw [show nI i + 1 = nI (i + 1) from (nI_succ i).symm]
          exact ih (i + 1) _ (by omega) hp2
set_option maxRecDepth 100000 in
set_option maxHeartbeats 4000000 in
theorem ev_Md_flow1 (us ch cp sh sp hr : Nat → Int32) (j : Nat) (hj : j < 4) (hu : ¬ us j = 0) (w : Int32) : E0_Md_flow l D cA [.ref 199, .int (nI j), .int w] [(199, cMd th ls n ck ru tr al), (204, cZs 4 us), (205, cIs 4 ch), (206, cIs 4 cp), (207, cIs 4 sh), (208, cIs 4 sp), (209, cIs 4 hr)] (some (.int (mFlw us ch cp sh sp hr j w))) [(199, cMd 0 ls n ck ru tr al), (204, cZs 4 us), (205, cIs 4 ch), (206, cIs 4 cp), (207, cIs 4 sh), (208, cIs 4 sp), (209, cIs 4 hr)] := by
  refine mj_ev (lv := [(0, .ref 199), (1, .int (nI j)), (2, .int w)]) (by decide +kernel) (Nat.le_of_ble_eq_true rfl) rfl (fun X h => ?_)
  refine mj_blk h.1 b_Md_flow_0 rfl trivial ?_
  refine mj_callV h zGood (ev_Md_isFlow l D cA _ _ _ _ _ _ _ _ _) v_Md_isFlow l_Md_flow_7 d_Md_flow_7 rfl ⟨by decide, by decide⟩ ⟨by decide, by decide⟩ [] rfl rfl rfl rfl rfl rfl (Nat.le_of_ble_eq_true rfl) ?_
  rintro _ _ ⟨rfl, rfl⟩
  rw [show (if ¬ nI j < 0 ∧ ¬ 4 ≤ nI j ∧ ¬ us (nI j).toNatClampNeg = 0 then (1 : Int32) else 0) = 1 from if_pos ⟨nI_pos (by omega), nI_ge (b := 4) hj (by decide), by rw [nI_clamp (by omega)]; exact hu⟩]
  refine mj_k rfl rfl ?_
  refine mj_ifeq1 h.1 (tgt := 22) d_Md_flow_10 (by decide) ?_
  refine mj_blk h.1 b_Md_flow_13 rfl trivial ?_
  refine mj_iflt h.1 (tgt := 22) d_Md_flow_14 (by decide) (fun h2 => ?_) (fun h2 => ?_)
  · refine mj_blk h.1 b_Md_flow_22 rfl trivial ?_
    exact mj_iret h rfl d_Md_flow_23 (by decide) (by decide) ⟨by unfold mFlw; rw [if_pos h2], rfl⟩
  · refine mj_blk h.1 b_Md_flow_17 rfl trivial ?_
    refine mj_icle h.1 (tgt := 24) d_Md_flow_19 (by decide) (fun h3 => ?_) (fun h3 => ?_)
    · refine mj_blk h.1 b_Md_flow_24 rfl trivial ?_
      refine mj_icne h.1 (tgt := 82) d_Md_flow_26 (by decide) (fun h4 => ?_) (fun h4 => ?_)
      · refine mj_blk h.1 b_Md_flow_82 rfl trivial ?_
        first | refine mj_ifneB h.1 (tgt := 95) d_Md_flow_83 (by decide) (fun h5 => ?_) (fun h5 => ?_) | refine mj_ifne h.1 (tgt := 95) d_Md_flow_83 (by decide) (fun h5 => ?_) (fun h5 => ?_)
        · refine mj_blk h.1 b_Md_flow_95 rfl trivial ?_
          refine mj_icne h.1 (tgt := 109) d_Md_flow_97 (by decide) (fun h6 => ?_) (fun h6 => ?_)
          · refine mj_blk h.1 b_Md_flow_109 rfl trivial ?_
            refine mj_icne h.1 (tgt := 123) d_Md_flow_111 (by decide) (fun h7 => ?_) (fun h7 => ?_)
            · refine mj_blk h.1 b_Md_flow_123 rfl ⟨vp_in_nI hj (by decide), trivial⟩ ?_
              exact mj_iret h rfl d_Md_flow_129 (by decide) (by decide) ⟨by unfold mFlw; rw [if_neg h2, if_pos h3, if_neg h4, if_neg h5, if_neg h6, if_neg h7]; rw [nI_clamp (by omega)], rfl⟩
            · refine mj_blk h.1 b_Md_flow_114 rfl ⟨vp_in_nI hj (by decide), trivial⟩ ?_
              exact mj_iret h rfl d_Md_flow_129 (by decide) (by decide) ⟨by unfold mFlw; rw [if_neg h2, if_pos h3, if_neg h4, if_neg h5, if_neg h6, if_pos h7]; rw [nI_clamp (by omega)], rfl⟩
          · refine mj_blk h.1 b_Md_flow_100 rfl ⟨vp_in_nI hj (by decide), trivial⟩ ?_
            exact mj_iret h rfl d_Md_flow_129 (by decide) (by decide) ⟨by unfold mFlw; rw [if_neg h2, if_pos h3, if_neg h4, if_neg h5, if_pos h6]; rw [nI_clamp (by omega)], rfl⟩
        · refine mj_blk h.1 b_Md_flow_86 rfl ⟨vp_in_nI hj (by decide), trivial⟩ ?_
          exact mj_iret h rfl d_Md_flow_129 (by decide) (by decide) ⟨by unfold mFlw; rw [if_neg h2, if_pos h3, if_neg h4, if_pos h5]; rw [nI_clamp (by omega)], rfl⟩
      · refine mj_blk h.1 b_Md_flow_29 rfl trivial ?_
        exact lp_Md_flow l D cA ls n ck ru tr al us ch cp sh sp hr j hj w h 4 0 0 (by omega) ⟨by unfold mFlw; rw [if_neg h2, if_pos h3, if_pos h4], rfl⟩
    · refine mj_blk h.1 b_Md_flow_22 rfl trivial ?_
      exact mj_iret h rfl d_Md_flow_23 (by decide) (by decide) ⟨by unfold mFlw; rw [if_neg h2, if_neg h3], rfl⟩
set_option maxRecDepth 100000 in
set_option maxHeartbeats 4000000 in
theorem ev_Md_flow0 (us ch cp sh sp hr : Nat → Int32) (k : Int32) (hk : ¬ (¬ k < 0 ∧ ¬ 4 ≤ k ∧ ¬ us k.toNatClampNeg = 0)) (w : Int32) : E0_Md_flow l D cA [.ref 199, .int k, .int w] [(199, cMd th ls n ck ru tr al), (204, cZs 4 us), (205, cIs 4 ch), (206, cIs 4 cp), (207, cIs 4 sh), (208, cIs 4 sp), (209, cIs 4 hr)] (some (.int (-1))) [(199, cMd 0 ls n ck ru tr al), (204, cZs 4 us), (205, cIs 4 ch), (206, cIs 4 cp), (207, cIs 4 sh), (208, cIs 4 sp), (209, cIs 4 hr)] := by
  refine mj_ev (lv := [(0, .ref 199), (1, .int k), (2, .int w)]) (by decide +kernel) (Nat.le_of_ble_eq_true rfl) rfl (fun X h => ?_)
  refine mj_blk h.1 b_Md_flow_0 rfl trivial ?_
  refine mj_callV h zGood (ev_Md_isFlow l D cA _ _ _ _ _ _ _ _ _) v_Md_isFlow l_Md_flow_7 d_Md_flow_7 rfl ⟨by decide, by decide⟩ ⟨by decide, by decide⟩ [] rfl rfl rfl rfl rfl rfl (Nat.le_of_ble_eq_true rfl) ?_
  rintro _ _ ⟨rfl, rfl⟩
  rw [if_neg hk]
  refine mj_k rfl rfl ?_
  refine mj_ifeq0 h.1 (tgt := 22) d_Md_flow_10 (by decide) ?_
  refine mj_blk h.1 b_Md_flow_22 rfl trivial ?_
  exact mj_iret h rfl d_Md_flow_23 (by decide) (by decide) ⟨rfl, rfl⟩
end MODC
