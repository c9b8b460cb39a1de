/-! Flow -/
abbrev cFl (a b : Nat) (ch cp sh sp ha : Int32) (lv : Bool) : mj_C := .inr (1, [.int ch, .int cp, .int sh, .int sp, .int ha, .ref a, .ref b, .int (if lv then 1 else 0)])
abbrev cSm (p q : Nat) (ts : Nat) (hs nx rr : Int32) (bg en : Bool) : mj_C := .inr (8, [.ref p, .ref q, .int (nI ts), .int hs, .int nx, .int rr, .int (if bg then 1 else 0), .int (if en then 1 else 0)])
def fWay (ch cp sh sp fh fp th tp : Int32) : Int32 := if (ch = fh ∧ cp = fp) ∧ (sh = th ∧ sp = tp) then 0 else if (sh = fh ∧ sp = fp) ∧ (ch = th ∧ cp = tp) then 1 else -1
section FLOW
variable (l : Launch) (D : va_G) (cA : Nat → ClassId) (ch cp sh sp ha : Int32) (lv : Bool)

set_option maxRecDepth 100000 in
set_option maxHeartbeats 4000000 in
theorem ev_Fl_isLive : E0_Fl_isLive l D cA [.ref 0] [(0, cFl 1 2 ch cp sh sp ha lv)] (some (.int (if lv then 1 else 0))) [(0, cFl 1 2 ch cp sh sp ha lv)] := by
  refine mj_ev (lv := [(0, .ref 0)]) (by decide +kernel) (Nat.le_of_ble_eq_true rfl) rfl (fun X h => ?_)
  refine mj_blk h.1 b_Fl_isLive_0 rfl trivial ?_
  exact mj_zret h rfl (mj_z01) d_Fl_isLive_4 (by decide) (by decide) ⟨rfl, rfl⟩
set_option maxRecDepth 100000 in
set_option maxHeartbeats 4000000 in
theorem ev_Fl_free : E0_Fl_free l D cA [.ref 0] [(0, cFl 1 2 ch cp sh sp ha lv)] none [(0, cFl 1 2 ch cp sh sp ha false)] := by
  refine mj_ev (lv := [(0, .ref 0)]) (by decide +kernel) (Nat.le_of_ble_eq_true rfl) rfl (fun X h => ?_)
  refine mj_blk h.1 b_Fl_free_0 rfl ⟨Or.inl rfl, trivial⟩ ?_
  exact mj_vret h rfl d_Fl_free_5 (by decide) (by decide) ⟨rfl, rfl⟩
set_option maxRecDepth 100000 in
set_option maxHeartbeats 4000000 in
theorem ev_Fl_isClient (h9 p9 : Int32) : E0_Fl_isClient l D cA [.ref 0, .int h9, .int p9] [(0, cFl 1 2 ch cp sh sp ha lv)] (some (.int (if ch = h9 ∧ cp = p9 then 1 else 0))) [(0, cFl 1 2 ch cp sh sp ha lv)] := by
  refine mj_ev (lv := [(0, .ref 0), (1, .int h9), (2, .int p9)]) (by decide +kernel) (Nat.le_of_ble_eq_true rfl) rfl (fun X h => ?_)
  refine mj_blk h.1 b_Fl_isClient_0 rfl trivial ?_
  refine mj_icne h.1 (tgt := 20) d_Fl_isClient_5 (by decide) (fun h1 => ?_) (fun h1 => ?_)
  · refine mj_blk h.1 b_Fl_isClient_20 rfl trivial ?_
    exact mj_zret h rfl (by first | exact Or.inl rfl | exact Or.inr rfl) d_Fl_isClient_21 (by decide) (by decide) ⟨by rw [if_neg (fun z => h1 z.1)], rfl⟩
  · refine mj_blk h.1 b_Fl_isClient_8 rfl trivial ?_
    refine mj_icne h.1 (tgt := 20) d_Fl_isClient_13 (by decide) (fun h2 => ?_) (fun h2 => ?_)
    · refine mj_blk h.1 b_Fl_isClient_20 rfl trivial ?_
      exact mj_zret h rfl (by first | exact Or.inl rfl | exact Or.inr rfl) d_Fl_isClient_21 (by decide) (by decide) ⟨by rw [if_neg (fun z => h2 z.2)], rfl⟩
    · refine mj_blk h.1 b_Fl_isClient_16 rfl trivial ?_
      exact mj_zret h rfl (by first | exact Or.inl rfl | exact Or.inr rfl) d_Fl_isClient_21 (by decide) (by decide) ⟨by rw [if_pos ⟨h1, h2⟩], rfl⟩
set_option maxRecDepth 100000 in
set_option maxHeartbeats 4000000 in
theorem ev_Fl_isServer (h9 p9 : Int32) : E0_Fl_isServer l D cA [.ref 0, .int h9, .int p9] [(0, cFl 1 2 ch cp sh sp ha lv)] (some (.int (if sh = h9 ∧ sp = p9 then 1 else 0))) [(0, cFl 1 2 ch cp sh sp ha lv)] := by
  refine mj_ev (lv := [(0, .ref 0), (1, .int h9), (2, .int p9)]) (by decide +kernel) (Nat.le_of_ble_eq_true rfl) rfl (fun X h => ?_)
  refine mj_blk h.1 b_Fl_isServer_0 rfl trivial ?_
  refine mj_icne h.1 (tgt := 20) d_Fl_isServer_5 (by decide) (fun h1 => ?_) (fun h1 => ?_)
  · refine mj_blk h.1 b_Fl_isServer_20 rfl trivial ?_
    exact mj_zret h rfl (by first | exact Or.inl rfl | exact Or.inr rfl) d_Fl_isServer_21 (by decide) (by decide) ⟨by rw [if_neg (fun z => h1 z.1)], rfl⟩
  · refine mj_blk h.1 b_Fl_isServer_8 rfl trivial ?_
    refine mj_icne h.1 (tgt := 20) d_Fl_isServer_13 (by decide) (fun h2 => ?_) (fun h2 => ?_)
    · refine mj_blk h.1 b_Fl_isServer_20 rfl trivial ?_
      exact mj_zret h rfl (by first | exact Or.inl rfl | exact Or.inr rfl) d_Fl_isServer_21 (by decide) (by decide) ⟨by rw [if_neg (fun z => h2 z.2)], rfl⟩
    · refine mj_blk h.1 b_Fl_isServer_16 rfl trivial ?_
      exact mj_zret h rfl (by first | exact Or.inl rfl | exact Or.inr rfl) d_Fl_isServer_21 (by decide) (by decide) ⟨by rw [if_pos ⟨h1, h2⟩], rfl⟩
set_option maxRecDepth 100000 in
set_option maxHeartbeats 4000000 in
theorem ev_Fl_streamOf (w : Int32) : E0_Fl_streamOf l D cA [.ref 0, .int w] [(0, cFl 1 2 ch cp sh sp ha lv)] (some (if w = 0 then .ref 1 else if w = 1 then .ref 2 else .null)) [(0, cFl 1 2 ch cp sh sp ha lv)] := by
  refine mj_ev (lv := [(0, .ref 0), (1, .int w)]) (by decide +kernel) (Nat.le_of_ble_eq_true rfl) rfl (fun X h => ?_)
  refine mj_blk h.1 b_Fl_streamOf_0 rfl trivial ?_
  first | refine mj_ifneB h.1 (tgt := 9) d_Fl_streamOf_1 (by decide) (fun h1 => ?_) (fun h1 => ?_) | refine mj_ifne h.1 (tgt := 9) d_Fl_streamOf_1 (by decide) (fun h1 => ?_) (fun h1 => ?_)
  · refine mj_blk h.1 b_Fl_streamOf_9 rfl trivial ?_
    refine mj_icne h.1 (tgt := 21) d_Fl_streamOf_11 (by decide) (fun h2 => ?_) (fun h2 => ?_)
    · refine mj_blk h.1 b_Fl_streamOf_21 rfl trivial ?_
      first | exact mj_aret h rfl d_Fl_streamOf_22 (by decide) (by decide) ⟨by rw [if_neg h1, if_neg h2], rfl⟩ | exact mj_aretN h rfl d_Fl_streamOf_22 (by decide) (by decide) ⟨by rw [if_neg h1, if_neg h2], rfl⟩
    · refine mj_blk h.1 b_Fl_streamOf_14 rfl trivial ?_
      first | exact mj_aret h rfl d_Fl_streamOf_22 (by decide) (by decide) ⟨by rw [if_neg h1, if_pos h2], rfl⟩ | exact mj_aretN h rfl d_Fl_streamOf_22 (by decide) (by decide) ⟨by rw [if_neg h1, if_pos h2], rfl⟩
  · refine mj_blk h.1 b_Fl_streamOf_4 rfl trivial ?_
    first | exact mj_aret h rfl d_Fl_streamOf_8 (by decide) (by decide) ⟨by rw [if_pos h1], rfl⟩ | exact mj_aretN h rfl d_Fl_streamOf_8 (by decide) (by decide) ⟨by rw [if_pos h1], rfl⟩
set_option maxRecDepth 100000 in
set_option maxHeartbeats 4000000 in
theorem ev_Fl_wayOf (fh fp th tp fn ds dz fg : Int32) : E0_Fl_wayOf l D cA [.ref 0, .ref 3] [(0, cFl 1 2 ch cp sh sp ha lv), (3, cPk fh fp th tp fn ds dz fg)] (some (.int (fWay ch cp sh sp fh fp th tp))) [(0, cFl 1 2 ch cp sh sp ha lv), (3, cPk fh fp th tp fn ds dz fg)] := by
  refine mj_ev (lv := [(0, .ref 0), (1, .ref 3)]) (by decide +kernel) (Nat.le_of_ble_eq_true rfl) rfl (fun X h => ?_)
  refine mj_blk h.1 b_Fl_wayOf_0 rfl trivial ?_
  refine mj_callV h zGood (ev_Fl_isClient l D cA _ _ _ _ _ _ _ _) v_Fl_isClient l_Fl_wayOf_9 d_Fl_wayOf_9 rfl ⟨by decide, by decide⟩ ⟨by decide, by decide⟩ [(0, 0), (1, 1), (2, 2)] rfl rfl rfl rfl rfl rfl (Nat.le_of_ble_eq_true rfl) ?_
  rintro _ _ ⟨rfl, rfl⟩
  refine mj_k rfl rfl ?_
  refine mj_blk h.1 b_Fl_wayOf_12 rfl trivial ?_
  first | refine mj_ifeqB h.1 (tgt := 34) d_Fl_wayOf_14 (by decide) (fun h1 => ?_) (fun h1 => ?_) | refine mj_ifeq h.1 (tgt := 34) d_Fl_wayOf_14 (by decide) (fun h1 => ?_) (fun h1 => ?_)
  · refine mj_blk h.1 b_Fl_wayOf_34 rfl trivial ?_
    refine mj_callV h zGood (ev_Fl_isServer l D cA _ _ _ _ _ _ _ _) v_Fl_isServer l_Fl_wayOf_43 d_Fl_wayOf_43 rfl ⟨by decide, by decide⟩ ⟨by decide, by decide⟩ [(0, 0), (1, 1), (2, 2)] rfl rfl rfl rfl rfl rfl (Nat.le_of_ble_eq_true rfl) ?_
    rintro _ _ ⟨rfl, rfl⟩
    refine mj_k rfl rfl ?_
    refine mj_blk h.1 b_Fl_wayOf_46 rfl trivial ?_
    first | refine mj_ifeqB h.1 (tgt := 68) d_Fl_wayOf_48 (by decide) (fun h2 => ?_) (fun h2 => ?_) | refine mj_ifeq h.1 (tgt := 68) d_Fl_wayOf_48 (by decide) (fun h2 => ?_) (fun h2 => ?_)
    · refine mj_blk h.1 b_Fl_wayOf_68 rfl trivial ?_
      exact mj_iret h rfl d_Fl_wayOf_69 (by decide) (by decide) ⟨by unfold fWay; rw [if_neg (fun z => h1 z.1), if_neg (fun z => h2 z.1)], rfl⟩
    · refine mj_blk h.1 b_Fl_wayOf_51 rfl trivial ?_
      refine mj_callV h zGood (ev_Fl_isClient l D cA _ _ _ _ _ _ _ _) v_Fl_isClient l_Fl_wayOf_60 d_Fl_wayOf_60 rfl ⟨by decide, by decide⟩ ⟨by decide, by decide⟩ [(0, 0), (1, 1), (2, 2)] rfl rfl rfl rfl rfl rfl (Nat.le_of_ble_eq_true rfl) ?_
      rintro _ _ ⟨rfl, rfl⟩
      refine mj_k rfl rfl ?_
      first | refine mj_ifeqB h.1 (tgt := 68) d_Fl_wayOf_63 (by decide) (fun h3 => ?_) (fun h3 => ?_) | refine mj_ifeq h.1 (tgt := 68) d_Fl_wayOf_63 (by decide) (fun h3 => ?_) (fun h3 => ?_)
      · refine mj_blk h.1 b_Fl_wayOf_68 rfl trivial ?_
        exact mj_iret h rfl d_Fl_wayOf_69 (by decide) (by decide) ⟨by unfold fWay; rw [if_neg (fun z => h1 z.1), if_neg (fun z => h3 z.2)], rfl⟩
      · refine mj_blk h.1 b_Fl_wayOf_66 rfl trivial ?_
        exact mj_iret h rfl d_Fl_wayOf_67 (by decide) (by decide) ⟨by unfold fWay; rw [if_neg (fun z => h1 z.1), if_pos ⟨h2, h3⟩], rfl⟩
  · refine mj_blk h.1 b_Fl_wayOf_17 rfl trivial ?_
    refine mj_callV h zGood (ev_Fl_isServer l D cA _ _ _ _ _ _ _ _) v_Fl_isServer l_Fl_wayOf_26 d_Fl_wayOf_26 rfl ⟨by decide, by decide⟩ ⟨by decide, by decide⟩ [(0, 0), (1, 1), (2, 2)] rfl rfl rfl rfl rfl rfl (Nat.le_of_ble_eq_true rfl) ?_
    rintro _ _ ⟨rfl, rfl⟩
    refine mj_k rfl rfl ?_
    first | refine mj_ifeqB h.1 (tgt := 34) d_Fl_wayOf_29 (by decide) (fun h4 => ?_) (fun h4 => ?_) | refine mj_ifeq h.1 (tgt := 34) d_Fl_wayOf_29 (by decide) (fun h4 => ?_) (fun h4 => ?_)
    · refine mj_blk h.1 b_Fl_wayOf_34 rfl trivial ?_
      refine mj_callV h zGood (ev_Fl_isServer l D cA _ _ _ _ _ _ _ _) v_Fl_isServer l_Fl_wayOf_43 d_Fl_wayOf_43 rfl ⟨by decide, by decide⟩ ⟨by decide, by decide⟩ [(0, 0), (1, 1), (2, 2)] rfl rfl rfl rfl rfl rfl (Nat.le_of_ble_eq_true rfl) ?_
      rintro _ _ ⟨rfl, rfl⟩
      refine mj_k rfl rfl ?_
      refine mj_blk h.1 b_Fl_wayOf_46 rfl trivial ?_
      first | refine mj_ifeqB h.1 (tgt := 68) d_Fl_wayOf_48 (by decide) (fun h5 => ?_) (fun h5 => ?_) | refine mj_ifeq h.1 (tgt := 68) d_Fl_wayOf_48 (by decide) (fun h5 => ?_) (fun h5 => ?_)
      · refine mj_blk h.1 b_Fl_wayOf_68 rfl trivial ?_
        exact mj_iret h rfl d_Fl_wayOf_69 (by decide) (by decide) ⟨by unfold fWay; rw [if_neg (fun z => h4 z.2), if_neg (fun z => h5 z.1)], rfl⟩
      · refine mj_blk h.1 b_Fl_wayOf_51 rfl trivial ?_
        refine mj_callV h zGood (ev_Fl_isClient l D cA _ _ _ _ _ _ _ _) v_Fl_isClient l_Fl_wayOf_60 d_Fl_wayOf_60 rfl ⟨by decide, by decide⟩ ⟨by decide, by decide⟩ [(0, 0), (1, 1), (2, 2)] rfl rfl rfl rfl rfl rfl (Nat.le_of_ble_eq_true rfl) ?_
        rintro _ _ ⟨rfl, rfl⟩
        refine mj_k rfl rfl ?_
        first | refine mj_ifeqB h.1 (tgt := 68) d_Fl_wayOf_63 (by decide) (fun h6 => ?_) (fun h6 => ?_) | refine mj_ifeq h.1 (tgt := 68) d_Fl_wayOf_63 (by decide) (fun h6 => ?_) (fun h6 => ?_)
        · refine mj_blk h.1 b_Fl_wayOf_68 rfl trivial ?_
          exact mj_iret h rfl d_Fl_wayOf_69 (by decide) (by decide) ⟨by unfold fWay; rw [if_neg (fun z => h4 z.2), if_neg (fun z => h6 z.2)], rfl⟩
        · refine mj_blk h.1 b_Fl_wayOf_66 rfl trivial ?_
          exact mj_iret h rfl d_Fl_wayOf_67 (by decide) (by decide) ⟨by unfold fWay; rw [if_neg (fun z => h4 z.2), if_pos ⟨h5, h6⟩], rfl⟩
    · refine mj_blk h.1 b_Fl_wayOf_32 rfl trivial ?_
      exact mj_iret h rfl d_Fl_wayOf_33 (by decide) (by decide) ⟨by unfold fWay; rw [if_pos ⟨h1, h4⟩], rfl⟩
set_option maxRecDepth 100000 in
set_option maxHeartbeats 4000000 in
theorem ev_Fl_freeIfBothEnded (tx1 hd1 : Nat → Int32) (ts1 : Nat) (hs1 nx1 rr1 : Int32) (bg1 en1 : Bool) (tx2 hd2 : Nat → Int32) (ts2 : Nat) (hs2 nx2 rr2 : Int32) (bg2 en2 : Bool) : E0_Fl_freeIfBothEnded l D cA [.ref 0] [(0, cFl 1 2 ch cp sh sp ha lv), (1, cSm 3 4 ts1 hs1 nx1 rr1 bg1 en1), (3, cIs 80 tx1), (4, cIs 32 hd1), (2, cSm 5 6 ts2 hs2 nx2 rr2 bg2 en2), (5, cIs 80 tx2), (6, cIs 32 hd2)] none [(0, cFl 1 2 ch cp sh sp ha (if en1 ∧ en2 then false else lv)), (1, cSm 3 4 ts1 hs1 nx1 rr1 bg1 en1), (3, cIs 80 tx1), (4, cIs 32 hd1), (2, cSm 5 6 ts2 hs2 nx2 rr2 bg2 en2), (5, cIs 80 tx2), (6, cIs 32 hd2)] := by
  refine mj_ev (lv := [(0, .ref 0)]) (by decide +kernel) (Nat.le_of_ble_eq_true rfl) rfl (fun X h => ?_)
  refine mj_blk h.1 b_Fl_freeIfBothEnded_0 rfl trivial ?_
  refine mj_callV h zGood (ev_Sm_hasEnded l D cA _ _ _ _ _ _ _ _) v_Sm_hasEnded l_Fl_freeIfBothEnded_4 d_Fl_freeIfBothEnded_4 rfl ⟨by decide, by decide⟩ ⟨by decide, by decide⟩ [(0, 1), (1, 3), (2, 4)] rfl rfl rfl rfl rfl rfl (Nat.le_of_ble_eq_true rfl) ?_
  rintro _ _ ⟨rfl, rfl⟩
  refine mj_k rfl rfl ?_
  first | refine mj_ifeqB h.1 (tgt := 24) d_Fl_freeIfBothEnded_7 (by decide) (fun h1 => ?_) (fun h1 => ?_) | refine mj_ifeq h.1 (tgt := 24) d_Fl_freeIfBothEnded_7 (by decide) (fun h1 => ?_) (fun h1 => ?_)
  · exact mj_vret h rfl d_Fl_freeIfBothEnded_24 (by decide) (by decide) ⟨rfl, by rw [if_neg (show ¬ (en1 = true ∧ en2 = true) from fun z => h1 z.1)]⟩
  · refine mj_blk h.1 b_Fl_freeIfBothEnded_10 rfl trivial ?_
    refine mj_callV h zGood (ev_Sm_hasEnded l D cA _ _ _ _ _ _ _ _) v_Sm_hasEnded l_Fl_freeIfBothEnded_14 d_Fl_freeIfBothEnded_14 rfl ⟨by decide, by decide⟩ ⟨by decide, by decide⟩ [(0, 2), (1, 5), (2, 6)] rfl rfl rfl rfl rfl rfl (Nat.le_of_ble_eq_true rfl) ?_
    rintro _ _ ⟨rfl, rfl⟩
    refine mj_k rfl rfl ?_
    first | refine mj_ifeqB h.1 (tgt := 24) d_Fl_freeIfBothEnded_17 (by decide) (fun h2 => ?_) (fun h2 => ?_) | refine mj_ifeq h.1 (tgt := 24) d_Fl_freeIfBothEnded_17 (by decide) (fun h2 => ?_) (fun h2 => ?_)
    · exact mj_vret h rfl d_Fl_freeIfBothEnded_24 (by decide) (by decide) ⟨rfl, by rw [if_neg (show ¬ (en1 = true ∧ en2 = true) from fun z => h2 z.2)]⟩
    · refine mj_blk h.1 b_Fl_freeIfBothEnded_20 rfl trivial ?_
      refine mj_callV h zGood (ev_Fl_free l D cA _ _ _ _ _ _) v_Fl_free l_Fl_freeIfBothEnded_21 d_Fl_freeIfBothEnded_21 rfl ⟨by decide, by decide⟩ ⟨by decide, by decide⟩ [(0, 0), (1, 1), (2, 2)] rfl rfl rfl rfl rfl rfl (Nat.le_of_ble_eq_true rfl) ?_
      rintro _ _ ⟨rfl, rfl⟩
      refine mj_k rfl rfl ?_
      exact mj_vret h rfl d_Fl_freeIfBothEnded_24 (by decide) (by decide) ⟨rfl, by rw [if_pos (show en1 = true ∧ en2 = true from ⟨h1, h2⟩)]⟩
set_option maxRecDepth 100000 in
set_option maxHeartbeats 4000000 in
theorem ev_Fl_open (tx1 hd1 : Nat → Int32) (ts1 : Nat) (hs1 nx1 rr1 : Int32) (bg1 en1 : Bool) (tx2 hd2 : Nat → Int32) (ts2 : Nat) (hs2 nx2 rr2 : Int32) (bg2 en2 : Bool) (fh fp th tp fn ds dz fg : Int32) : E0_Fl_open l D cA [.ref 0, .ref 7] [(0, cFl 1 2 ch cp sh sp ha lv), (1, cSm 3 4 ts1 hs1 nx1 rr1 bg1 en1), (3, cIs 80 tx1), (4, cIs 32 hd1), (2, cSm 5 6 ts2 hs2 nx2 rr2 bg2 en2), (5, cIs 80 tx2), (6, cIs 32 hd2), (7, cPk fh fp th tp fn ds dz fg)] none [(0, cFl 1 2 fh fp th tp ha true), (1, cSm 3 4 0 0 0 0 false false), (3, cIs 80 tx1), (4, cIs 32 (sFill 32 0 hd1)), (2, cSm 5 6 0 0 0 0 false false), (5, cIs 80 tx2), (6, cIs 32 (sFill 32 0 hd2)), (7, cPk fh fp th tp fn ds dz fg)] := by
  refine mj_ev (lv := [(0, .ref 0), (1, .ref 7)]) (by decide +kernel) (Nat.le_of_ble_eq_true rfl) rfl (fun X h => ?_)
  refine mj_blk h.1 b_Fl_open_0 rfl ⟨Or.inr rfl, trivial⟩ ?_
  refine mj_callV h zGood (ev_Sm_reset l D cA _ _ _ _ _ _ _ _) v_Sm_reset l_Fl_open_41 d_Fl_open_41 rfl ⟨by decide, by decide⟩ ⟨by decide, by decide⟩ [(0, 1), (1, 3), (2, 4)] rfl rfl rfl rfl rfl rfl (Nat.le_of_ble_eq_true rfl) ?_
  rintro _ _ ⟨rfl, rfl⟩
  refine mj_k rfl rfl ?_
  refine mj_blk h.1 b_Fl_open_44 rfl trivial ?_
  refine mj_callV h zGood (ev_Sm_reset l D cA _ _ _ _ _ _ _ _) v_Sm_reset l_Fl_open_48 d_Fl_open_48 rfl ⟨by decide, by decide⟩ ⟨by decide, by decide⟩ [(0, 2), (1, 5), (2, 6)] rfl rfl rfl rfl rfl rfl (Nat.le_of_ble_eq_true rfl) ?_
  rintro _ _ ⟨rfl, rfl⟩
  refine mj_k rfl rfl ?_
  exact mj_vret h rfl d_Fl_open_51 (by decide) (by decide) ⟨rfl, rfl⟩
end FLOW
