/-! StreamWatch: flow, stream, text (by program: wip/whole/src_sw2.py) -/
def qFlow (ch cp sh sp ha : Nat → Int32) (lv : Nat → Bool) (j : Nat) (w : Int32) : Int32 := if lv j = true then (if w = 0 then ch j else if w = 1 then cp j else if w = 2 then sh j else if w = 3 then sp j else if w = 4 then hAft ha lv (ha j) 4 0 0 else -1) else -1
def qStr (ts : Nat → Nat) (hs nx : Nat → Int32) (en : Nat → Bool) (t : Nat) (w : Int32) : Int32 := if w = 0 then nI (ts t) else if w = 1 then nx t else if w = 2 then hs t else if w = 3 then (if en t then 1 else 0) else -1
section SWB
variable (l : Launch) (D : va_G) (cA : Nat → ClassId) (st : Bool) (rc : Nat) (ph : Int32) (ch cp sh sp ha : Nat → Int32) (lv : Nat → Bool) (tx hd : Nat → Nat → Int32) (ts : Nat → Nat) (hs nx rr : Nat → Int32) (bg en : Nat → Bool)

set_option maxRecDepth 100000 in
set_option maxHeartbeats 4000000 in
theorem ev_Sw_flow_0 (w : Int32) : E0_Sw_flow l D cA [.ref 50, .int (nI 0), .int w] [(50, cSw st rc), (0, .inr (2, [.ref 1, .int ph])), (1, .inl (3, 4, .inr (.inr [some 2, some 3, some 4, some 5]))), (2, cFl 6 7 (ch 0) (cp 0) (sh 0) (sp 0) (ha 0) (lv 0)), (3, cFl 8 9 (ch 1) (cp 1) (sh 1) (sp 1) (ha 1) (lv 1)), (4, cFl 10 11 (ch 2) (cp 2) (sh 2) (sp 2) (ha 2) (lv 2)), (5, cFl 12 13 (ch 3) (cp 3) (sh 3) (sp 3) (ha 3) (lv 3))] (some (.int (qFlow ch cp sh sp ha lv 0 w))) [(50, cSw st rc), (0, .inr (2, [.ref 1, .int ph])), (1, .inl (3, 4, .inr (.inr [some 2, some 3, some 4, some 5]))), (2, cFl 6 7 (ch 0) (cp 0) (sh 0) (sp 0) (ha 0) (lv 0)), (3, cFl 8 9 (ch 1) (cp 1) (sh 1) (sp 1) (ha 1) (lv 1)), (4, cFl 10 11 (ch 2) (cp 2) (sh 2) (sp 2) (ha 2) (lv 2)), (5, cFl 12 13 (ch 3) (cp 3) (sh 3) (sp 3) (ha 3) (lv 3))] := by
  refine mj_ev (lv := [(0, .ref 50), (1, .int (nI 0)), (2, .int w)]) (by decide +kernel) (Nat.le_of_ble_eq_true rfl) rfl (fun X h => ?_)
  refine mj_blk h.1 b_Sw_flow_0 rfl trivial ?_
  refine mj_callV h zGood (ev_Ft_at_0 l D cA _ _ _ _ _ _ _) v_Ft_at l_Sw_flow_5 d_Sw_flow_5 rfl ⟨by decide, by decide⟩ ⟨by decide, by decide⟩ [(0, 0), (1, 1), (2, 2), (3, 3), (4, 4), (5, 5), (6, 6), (7, 7), (8, 8), (9, 9), (10, 10), (11, 11), (12, 12), (13, 13)] rfl rfl rfl rfl rfl rfl (Nat.le_of_ble_eq_true rfl) ?_
  rintro _ _ ⟨rfl, rfl⟩
  by_cases hl : lv 0 = true
  · rw [show (if lv 0 = true then Value.ref 2 else Value.null) = Value.ref 2 from if_pos hl]
    refine mj_k rfl rfl ?_
    refine mj_blk h.1 b_Sw_flow_8 rfl trivial ?_
    refine mj_ifnonnull_r h.1 d_Sw_flow_10 (tgt := 15) (by decide) ?_
    refine mj_blk h.1 b_Sw_flow_15 rfl trivial ?_
    rcases mj_sw4 w with rfl | rfl | rfl | rfl | rfl | hsw
    · refine mj_tswIn h.1 d_Sw_flow_16 (by decide) (by decide) (off := 36) (by decide) (tgt := 52) (by decide) ?_
      refine mj_blk h.1 b_Sw_flow_52 rfl trivial ?_
      exact mj_iret h rfl d_Sw_flow_56 (by decide) (by decide) ⟨by unfold qFlow; rw [if_pos hl]; rfl, rfl⟩
    · refine mj_tswIn h.1 d_Sw_flow_16 (by decide) (by decide) (off := 41) (by decide) (tgt := 57) (by decide) ?_
      refine mj_blk h.1 b_Sw_flow_57 rfl trivial ?_
      exact mj_iret h rfl d_Sw_flow_61 (by decide) (by decide) ⟨by unfold qFlow; rw [if_pos hl]; rfl, rfl⟩
    · refine mj_tswIn h.1 d_Sw_flow_16 (by decide) (by decide) (off := 46) (by decide) (tgt := 62) (by decide) ?_
      refine mj_blk h.1 b_Sw_flow_62 rfl trivial ?_
      exact mj_iret h rfl d_Sw_flow_66 (by decide) (by decide) ⟨by unfold qFlow; rw [if_pos hl]; rfl, rfl⟩
    · refine mj_tswIn h.1 d_Sw_flow_16 (by decide) (by decide) (off := 51) (by decide) (tgt := 67) (by decide) ?_
      refine mj_blk h.1 b_Sw_flow_67 rfl trivial ?_
      exact mj_iret h rfl d_Sw_flow_71 (by decide) (by decide) ⟨by unfold qFlow; rw [if_pos hl]; rfl, rfl⟩
    · refine mj_tswIn h.1 d_Sw_flow_16 (by decide) (by decide) (off := 56) (by decide) (tgt := 72) (by decide) ?_
      refine mj_blk h.1 b_Sw_flow_72 rfl trivial ?_
      refine mj_callV h zGood (ev_Ft_heardAfter_0 l D cA _ _ _ _ _ _ _) v_Ft_heardAfter l_Sw_flow_77 d_Sw_flow_77 rfl ⟨by decide, by decide⟩ ⟨by decide, by decide⟩ [(0, 0), (1, 1), (2, 2), (3, 3), (4, 4), (5, 5), (6, 6), (7, 7), (8, 8), (9, 9), (10, 10), (11, 11), (12, 12), (13, 13)] rfl rfl rfl rfl rfl rfl (Nat.le_of_ble_eq_true rfl) ?_
      rintro _ _ ⟨rfl, rfl⟩
      refine mj_k rfl rfl ?_
      exact mj_iret h rfl d_Sw_flow_80 (by decide) (by decide) ⟨by unfold qFlow; rw [if_pos hl]; rfl, rfl⟩
    · refine mj_tswOut h.1 d_Sw_flow_16 hsw (tgt := 81) (by decide) ?_
      refine mj_blk h.1 b_Sw_flow_81 rfl trivial ?_
      exact mj_iret h rfl d_Sw_flow_82 (by decide) (by decide) ⟨by unfold qFlow; rw [if_pos hl, if_neg (show ¬ w = 0 from mj_out4 hsw 0 (by decide)), if_neg (show ¬ w = 1 from mj_out4 hsw 1 (by decide)), if_neg (show ¬ w = 2 from mj_out4 hsw 2 (by decide)), if_neg (show ¬ w = 3 from mj_out4 hsw 3 (by decide)), if_neg (show ¬ w = 4 from mj_out4 hsw 4 (by decide))], rfl⟩
  · rw [show (if lv 0 = true then Value.ref 2 else Value.null) = Value.null from if_neg hl]
    refine mj_k rfl rfl ?_
    refine mj_blk h.1 b_Sw_flow_8 rfl trivial ?_
    refine mj_ifnonnull_n h.1 d_Sw_flow_10 ?_
    refine mj_blk h.1 b_Sw_flow_13 rfl trivial ?_
    exact mj_iret h rfl d_Sw_flow_14 (by decide) (by decide) ⟨by unfold qFlow; rw [if_neg hl], rfl⟩
set_option maxRecDepth 100000 in
set_option maxHeartbeats 4000000 in
theorem ev_Sw_flow_1 (w : Int32) : E0_Sw_flow l D cA [.ref 50, .int (nI 1), .int w] [(50, cSw st rc), (0, .inr (2, [.ref 1, .int ph])), (1, .inl (3, 4, .inr (.inr [some 2, some 3, some 4, some 5]))), (2, cFl 6 7 (ch 0) (cp 0) (sh 0) (sp 0) (ha 0) (lv 0)), (3, cFl 8 9 (ch 1) (cp 1) (sh 1) (sp 1) (ha 1) (lv 1)), (4, cFl 10 11 (ch 2) (cp 2) (sh 2) (sp 2) (ha 2) (lv 2)), (5, cFl 12 13 (ch 3) (cp 3) (sh 3) (sp 3) (ha 3) (lv 3))] (some (.int (qFlow ch cp sh sp ha lv 1 w))) [(50, cSw st rc), (0, .inr (2, [.ref 1, .int ph])), (1, .inl (3, 4, .inr (.inr [some 2, some 3, some 4, some 5]))), (2, cFl 6 7 (ch 0) (cp 0) (sh 0) (sp 0) (ha 0) (lv 0)), (3, cFl 8 9 (ch 1) (cp 1) (sh 1) (sp 1) (ha 1) (lv 1)), (4, cFl 10 11 (ch 2) (cp 2) (sh 2) (sp 2) (ha 2) (lv 2)), (5, cFl 12 13 (ch 3) (cp 3) (sh 3) (sp 3) (ha 3) (lv 3))] := by
  refine mj_ev (lv := [(0, .ref 50), (1, .int (nI 1)), (2, .int w)]) (by decide +kernel) (Nat.le_of_ble_eq_true rfl) rfl (fun X h => ?_)
  refine mj_blk h.1 b_Sw_flow_0 rfl trivial ?_
  refine mj_callV h zGood (ev_Ft_at_1 l D cA _ _ _ _ _ _ _) v_Ft_at l_Sw_flow_5 d_Sw_flow_5 rfl ⟨by decide, by decide⟩ ⟨by decide, by decide⟩ [(0, 0), (1, 1), (2, 2), (3, 3), (4, 4), (5, 5), (6, 6), (7, 7), (8, 8), (9, 9), (10, 10), (11, 11), (12, 12), (13, 13)] rfl rfl rfl rfl rfl rfl (Nat.le_of_ble_eq_true rfl) ?_
  rintro _ _ ⟨rfl, rfl⟩
  by_cases hl : lv 1 = true
  · rw [show (if lv 1 = true then Value.ref 3 else Value.null) = Value.ref 3 from if_pos hl]
    refine mj_k rfl rfl ?_
    refine mj_blk h.1 b_Sw_flow_8 rfl trivial ?_
    refine mj_ifnonnull_r h.1 d_Sw_flow_10 (tgt := 15) (by decide) ?_
    refine mj_blk h.1 b_Sw_flow_15 rfl trivial ?_
    rcases mj_sw4 w with rfl | rfl | rfl | rfl | rfl | hsw
    · refine mj_tswIn h.1 d_Sw_flow_16 (by decide) (by decide) (off := 36) (by decide) (tgt := 52) (by decide) ?_
      refine mj_blk h.1 b_Sw_flow_52 rfl trivial ?_
      exact mj_iret h rfl d_Sw_flow_56 (by decide) (by decide) ⟨by unfold qFlow; rw [if_pos hl]; rfl, rfl⟩
    · refine mj_tswIn h.1 d_Sw_flow_16 (by decide) (by decide) (off := 41) (by decide) (tgt := 57) (by decide) ?_
      refine mj_blk h.1 b_Sw_flow_57 rfl trivial ?_
      exact mj_iret h rfl d_Sw_flow_61 (by decide) (by decide) ⟨by unfold qFlow; rw [if_pos hl]; rfl, rfl⟩
    · refine mj_tswIn h.1 d_Sw_flow_16 (by decide) (by decide) (off := 46) (by decide) (tgt := 62) (by decide) ?_
      refine mj_blk h.1 b_Sw_flow_62 rfl trivial ?_
      exact mj_iret h rfl d_Sw_flow_66 (by decide) (by decide) ⟨by unfold qFlow; rw [if_pos hl]; rfl, rfl⟩
    · refine mj_tswIn h.1 d_Sw_flow_16 (by decide) (by decide) (off := 51) (by decide) (tgt := 67) (by decide) ?_
      refine mj_blk h.1 b_Sw_flow_67 rfl trivial ?_
      exact mj_iret h rfl d_Sw_flow_71 (by decide) (by decide) ⟨by unfold qFlow; rw [if_pos hl]; rfl, rfl⟩
    · refine mj_tswIn h.1 d_Sw_flow_16 (by decide) (by decide) (off := 56) (by decide) (tgt := 72) (by decide) ?_
      refine mj_blk h.1 b_Sw_flow_72 rfl trivial ?_
      refine mj_callV h zGood (ev_Ft_heardAfter_1 l D cA _ _ _ _ _ _ _) v_Ft_heardAfter l_Sw_flow_77 d_Sw_flow_77 rfl ⟨by decide, by decide⟩ ⟨by decide, by decide⟩ [(0, 0), (1, 1), (2, 2), (3, 3), (4, 4), (5, 5), (6, 6), (7, 7), (8, 8), (9, 9), (10, 10), (11, 11), (12, 12), (13, 13)] rfl rfl rfl rfl rfl rfl (Nat.le_of_ble_eq_true rfl) ?_
      rintro _ _ ⟨rfl, rfl⟩
      refine mj_k rfl rfl ?_
      exact mj_iret h rfl d_Sw_flow_80 (by decide) (by decide) ⟨by unfold qFlow; rw [if_pos hl]; rfl, rfl⟩
    · refine mj_tswOut h.1 d_Sw_flow_16 hsw (tgt := 81) (by decide) ?_
      refine mj_blk h.1 b_Sw_flow_81 rfl trivial ?_
      exact mj_iret h rfl d_Sw_flow_82 (by decide) (by decide) ⟨by unfold qFlow; rw [if_pos hl, if_neg (show ¬ w = 0 from mj_out4 hsw 0 (by decide)), if_neg (show ¬ w = 1 from mj_out4 hsw 1 (by decide)), if_neg (show ¬ w = 2 from mj_out4 hsw 2 (by decide)), if_neg (show ¬ w = 3 from mj_out4 hsw 3 (by decide)), if_neg (show ¬ w = 4 from mj_out4 hsw 4 (by decide))], rfl⟩
  · rw [show (if lv 1 = true then Value.ref 3 else Value.null) = Value.null from if_neg hl]
    refine mj_k rfl rfl ?_
    refine mj_blk h.1 b_Sw_flow_8 rfl trivial ?_
    refine mj_ifnonnull_n h.1 d_Sw_flow_10 ?_
    refine mj_blk h.1 b_Sw_flow_13 rfl trivial ?_
    exact mj_iret h rfl d_Sw_flow_14 (by decide) (by decide) ⟨by unfold qFlow; rw [if_neg hl], rfl⟩
set_option maxRecDepth 100000 in
set_option maxHeartbeats 4000000 in
theorem ev_Sw_flow_2 (w : Int32) : E0_Sw_flow l D cA [.ref 50, .int (nI 2), .int w] [(50, cSw st rc), (0, .inr (2, [.ref 1, .int ph])), (1, .inl (3, 4, .inr (.inr [some 2, some 3, some 4, some 5]))), (2, cFl 6 7 (ch 0) (cp 0) (sh 0) (sp 0) (ha 0) (lv 0)), (3, cFl 8 9 (ch 1) (cp 1) (sh 1) (sp 1) (ha 1) (lv 1)), (4, cFl 10 11 (ch 2) (cp 2) (sh 2) (sp 2) (ha 2) (lv 2)), (5, cFl 12 13 (ch 3) (cp 3) (sh 3) (sp 3) (ha 3) (lv 3))] (some (.int (qFlow ch cp sh sp ha lv 2 w))) [(50, cSw st rc), (0, .inr (2, [.ref 1, .int ph])), (1, .inl (3, 4, .inr (.inr [some 2, some 3, some 4, some 5]))), (2, cFl 6 7 (ch 0) (cp 0) (sh 0) (sp 0) (ha 0) (lv 0)), (3, cFl 8 9 (ch 1) (cp 1) (sh 1) (sp 1) (ha 1) (lv 1)), (4, cFl 10 11 (ch 2) (cp 2) (sh 2) (sp 2) (ha 2) (lv 2)), (5, cFl 12 13 (ch 3) (cp 3) (sh 3) (sp 3) (ha 3) (lv 3))] := by
  refine mj_ev (lv := [(0, .ref 50), (1, .int (nI 2)), (2, .int w)]) (by decide +kernel) (Nat.le_of_ble_eq_true rfl) rfl (fun X h => ?_)
  refine mj_blk h.1 b_Sw_flow_0 rfl trivial ?_
  refine mj_callV h zGood (ev_Ft_at_2 l D cA _ _ _ _ _ _ _) v_Ft_at l_Sw_flow_5 d_Sw_flow_5 rfl ⟨by decide, by decide⟩ ⟨by decide, by decide⟩ [(0, 0), (1, 1), (2, 2), (3, 3), (4, 4), (5, 5), (6, 6), (7, 7), (8, 8), (9, 9), (10, 10), (11, 11), (12, 12), (13, 13)] rfl rfl rfl rfl rfl rfl (Nat.le_of_ble_eq_true rfl) ?_
  rintro _ _ ⟨rfl, rfl⟩
  by_cases hl : lv 2 = true
  · rw [show (if lv 2 = true then Value.ref 4 else Value.null) = Value.ref 4 from if_pos hl]
    refine mj_k rfl rfl ?_
    refine mj_blk h.1 b_Sw_flow_8 rfl trivial ?_
    refine mj_ifnonnull_r h.1 d_Sw_flow_10 (tgt := 15) (by decide) ?_
    refine mj_blk h.1 b_Sw_flow_15 rfl trivial ?_
    rcases mj_sw4 w with rfl | rfl | rfl | rfl | rfl | hsw
    · refine mj_tswIn h.1 d_Sw_flow_16 (by decide) (by decide) (off := 36) (by decide) (tgt := 52) (by decide) ?_
      refine mj_blk h.1 b_Sw_flow_52 rfl trivial ?_
      exact mj_iret h rfl d_Sw_flow_56 (by decide) (by decide) ⟨by unfold qFlow; rw [if_pos hl]; rfl, rfl⟩
    · refine mj_tswIn h.1 d_Sw_flow_16 (by decide) (by decide) (off := 41) (by decide) (tgt := 57) (by decide) ?_
      refine mj_blk h.1 b_Sw_flow_57 rfl trivial ?_
      exact mj_iret h rfl d_Sw_flow_61 (by decide) (by decide) ⟨by unfold qFlow; rw [if_pos hl]; rfl, rfl⟩
    · refine mj_tswIn h.1 d_Sw_flow_16 (by decide) (by decide) (off := 46) (by decide) (tgt := 62) (by decide) ?_
      refine mj_blk h.1 b_Sw_flow_62 rfl trivial ?_
      exact mj_iret h rfl d_Sw_flow_66 (by decide) (by decide) ⟨by unfold qFlow; rw [if_pos hl]; rfl, rfl⟩
    · refine mj_tswIn h.1 d_Sw_flow_16 (by decide) (by decide) (off := 51) (by decide) (tgt := 67) (by decide) ?_
      refine mj_blk h.1 b_Sw_flow_67 rfl trivial ?_
      exact mj_iret h rfl d_Sw_flow_71 (by decide) (by decide) ⟨by unfold qFlow; rw [if_pos hl]; rfl, rfl⟩
    · refine mj_tswIn h.1 d_Sw_flow_16 (by decide) (by decide) (off := 56) (by decide) (tgt := 72) (by decide) ?_
      refine mj_blk h.1 b_Sw_flow_72 rfl trivial ?_
      refine mj_callV h zGood (ev_Ft_heardAfter_2 l D cA _ _ _ _ _ _ _) v_Ft_heardAfter l_Sw_flow_77 d_Sw_flow_77 rfl ⟨by decide, by decide⟩ ⟨by decide, by decide⟩ [(0, 0), (1, 1), (2, 2), (3, 3), (4, 4), (5, 5), (6, 6), (7, 7), (8, 8), (9, 9), (10, 10), (11, 11), (12, 12), (13, 13)] rfl rfl rfl rfl rfl rfl (Nat.le_of_ble_eq_true rfl) ?_
      rintro _ _ ⟨rfl, rfl⟩
      refine mj_k rfl rfl ?_
      exact mj_iret h rfl d_Sw_flow_80 (by decide) (by decide) ⟨by unfold qFlow; rw [if_pos hl]; rfl, rfl⟩
    · refine mj_tswOut h.1 d_Sw_flow_16 hsw (tgt := 81) (by decide) ?_
      refine mj_blk h.1 b_Sw_flow_81 rfl trivial ?_
      exact mj_iret h rfl d_Sw_flow_82 (by decide) (by decide) ⟨by unfold qFlow; rw [if_pos hl, if_neg (show ¬ w = 0 from mj_out4 hsw 0 (by decide)), if_neg (show ¬ w = 1 from mj_out4 hsw 1 (by decide)), if_neg (show ¬ w = 2 from mj_out4 hsw 2 (by decide)), if_neg (show ¬ w = 3 from mj_out4 hsw 3 (by decide)), if_neg (show ¬ w = 4 from mj_out4 hsw 4 (by decide))], rfl⟩
  · rw [show (if lv 2 = true then Value.ref 4 else Value.null) = Value.null from if_neg hl]
    refine mj_k rfl rfl ?_
    refine mj_blk h.1 b_Sw_flow_8 rfl trivial ?_
    refine mj_ifnonnull_n h.1 d_Sw_flow_10 ?_
    refine mj_blk h.1 b_Sw_flow_13 rfl trivial ?_
    exact mj_iret h rfl d_Sw_flow_14 (by decide) (by decide) ⟨by unfold qFlow; rw [if_neg hl], rfl⟩
set_option maxRecDepth 100000 in
set_option maxHeartbeats 4000000 in
theorem ev_Sw_flow_3 (w : Int32) : E0_Sw_flow l D cA [.ref 50, .int (nI 3), .int w] [(50, cSw st rc), (0, .inr (2, [.ref 1, .int ph])), (1, .inl (3, 4, .inr (.inr [some 2, some 3, some 4, some 5]))), (2, cFl 6 7 (ch 0) (cp 0) (sh 0) (sp 0) (ha 0) (lv 0)), (3, cFl 8 9 (ch 1) (cp 1) (sh 1) (sp 1) (ha 1) (lv 1)), (4, cFl 10 11 (ch 2) (cp 2) (sh 2) (sp 2) (ha 2) (lv 2)), (5, cFl 12 13 (ch 3) (cp 3) (sh 3) (sp 3) (ha 3) (lv 3))] (some (.int (qFlow ch cp sh sp ha lv 3 w))) [(50, cSw st rc), (0, .inr (2, [.ref 1, .int ph])), (1, .inl (3, 4, .inr (.inr [some 2, some 3, some 4, some 5]))), (2, cFl 6 7 (ch 0) (cp 0) (sh 0) (sp 0) (ha 0) (lv 0)), (3, cFl 8 9 (ch 1) (cp 1) (sh 1) (sp 1) (ha 1) (lv 1)), (4, cFl 10 11 (ch 2) (cp 2) (sh 2) (sp 2) (ha 2) (lv 2)), (5, cFl 12 13 (ch 3) (cp 3) (sh 3) (sp 3) (ha 3) (lv 3))] := by
  refine mj_ev (lv := [(0, .ref 50), (1, .int (nI 3)), (2, .int w)]) (by decide +kernel) (Nat.le_of_ble_eq_true rfl) rfl (fun X h => ?_)
  refine mj_blk h.1 b_Sw_flow_0 rfl trivial ?_
  refine mj_callV h zGood (ev_Ft_at_3 l D cA _ _ _ _ _ _ _) v_Ft_at l_Sw_flow_5 d_Sw_flow_5 rfl ⟨by decide, by decide⟩ ⟨by decide, by decide⟩ [(0, 0), (1, 1), (2, 2), (3, 3), (4, 4), (5, 5), (6, 6), (7, 7), (8, 8), (9, 9), (10, 10), (11, 11), (12, 12), (13, 13)] rfl rfl rfl rfl rfl rfl (Nat.le_of_ble_eq_true rfl) ?_
  rintro _ _ ⟨rfl, rfl⟩
  by_cases hl : lv 3 = true
  · rw [show (if lv 3 = true then Value.ref 5 else Value.null) = Value.ref 5 from if_pos hl]
    refine mj_k rfl rfl ?_
    refine mj_blk h.1 b_Sw_flow_8 rfl trivial ?_
    refine mj_ifnonnull_r h.1 d_Sw_flow_10 (tgt := 15) (by decide) ?_
    refine mj_blk h.1 b_Sw_flow_15 rfl trivial ?_
    rcases mj_sw4 w with rfl | rfl | rfl | rfl | rfl | hsw
    · refine mj_tswIn h.1 d_Sw_flow_16 (by decide) (by decide) (off := 36) (by decide) (tgt := 52) (by decide) ?_
      refine mj_blk h.1 b_Sw_flow_52 rfl trivial ?_
      exact mj_iret h rfl d_Sw_flow_56 (by decide) (by decide) ⟨by unfold qFlow; rw [if_pos hl]; rfl, rfl⟩
    · refine mj_tswIn h.1 d_Sw_flow_16 (by decide) (by decide) (off := 41) (by decide) (tgt := 57) (by decide) ?_
      refine mj_blk h.1 b_Sw_flow_57 rfl trivial ?_
      exact mj_iret h rfl d_Sw_flow_61 (by decide) (by decide) ⟨by unfold qFlow; rw [if_pos hl]; rfl, rfl⟩
    · refine mj_tswIn h.1 d_Sw_flow_16 (by decide) (by decide) (off := 46) (by decide) (tgt := 62) (by decide) ?_
      refine mj_blk h.1 b_Sw_flow_62 rfl trivial ?_
      exact mj_iret h rfl d_Sw_flow_66 (by decide) (by decide) ⟨by unfold qFlow; rw [if_pos hl]; rfl, rfl⟩
    · refine mj_tswIn h.1 d_Sw_flow_16 (by decide) (by decide) (off := 51) (by decide) (tgt := 67) (by decide) ?_
      refine mj_blk h.1 b_Sw_flow_67 rfl trivial ?_
      exact mj_iret h rfl d_Sw_flow_71 (by decide) (by decide) ⟨by unfold qFlow; rw [if_pos hl]; rfl, rfl⟩
    · refine mj_tswIn h.1 d_Sw_flow_16 (by decide) (by decide) (off := 56) (by decide) (tgt := 72) (by decide) ?_
      refine mj_blk h.1 b_Sw_flow_72 rfl trivial ?_
      refine mj_callV h zGood (ev_Ft_heardAfter_3 l D cA _ _ _ _ _ _ _) v_Ft_heardAfter l_Sw_flow_77 d_Sw_flow_77 rfl ⟨by decide, by decide⟩ ⟨by decide, by decide⟩ [(0, 0), (1, 1), (2, 2), (3, 3), (4, 4), (5, 5), (6, 6), (7, 7), (8, 8), (9, 9), (10, 10), (11, 11), (12, 12), (13, 13)] rfl rfl rfl rfl rfl rfl (Nat.le_of_ble_eq_true rfl) ?_
      rintro _ _ ⟨rfl, rfl⟩
      refine mj_k rfl rfl ?_
      exact mj_iret h rfl d_Sw_flow_80 (by decide) (by decide) ⟨by unfold qFlow; rw [if_pos hl]; rfl, rfl⟩
    · refine mj_tswOut h.1 d_Sw_flow_16 hsw (tgt := 81) (by decide) ?_
      refine mj_blk h.1 b_Sw_flow_81 rfl trivial ?_
      exact mj_iret h rfl d_Sw_flow_82 (by decide) (by decide) ⟨by unfold qFlow; rw [if_pos hl, if_neg (show ¬ w = 0 from mj_out4 hsw 0 (by decide)), if_neg (show ¬ w = 1 from mj_out4 hsw 1 (by decide)), if_neg (show ¬ w = 2 from mj_out4 hsw 2 (by decide)), if_neg (show ¬ w = 3 from mj_out4 hsw 3 (by decide)), if_neg (show ¬ w = 4 from mj_out4 hsw 4 (by decide))], rfl⟩
  · rw [show (if lv 3 = true then Value.ref 5 else Value.null) = Value.null from if_neg hl]
    refine mj_k rfl rfl ?_
    refine mj_blk h.1 b_Sw_flow_8 rfl trivial ?_
    refine mj_ifnonnull_n h.1 d_Sw_flow_10 ?_
    refine mj_blk h.1 b_Sw_flow_13 rfl trivial ?_
    exact mj_iret h rfl d_Sw_flow_14 (by decide) (by decide) ⟨by unfold qFlow; rw [if_neg hl], rfl⟩
set_option maxRecDepth 100000 in
set_option maxHeartbeats 4000000 in
theorem ev_Sw_flow_N (k : Int32) (hk : k < 0 ∨ 4 ≤ k) (w : Int32) : E0_Sw_flow l D cA [.ref 50, .int k, .int w] [(50, cSw st rc), (0, .inr (2, [.ref 1, .int ph])), (1, .inl (3, 4, .inr (.inr [some 2, some 3, some 4, some 5]))), (2, cFl 6 7 (ch 0) (cp 0) (sh 0) (sp 0) (ha 0) (lv 0)), (3, cFl 8 9 (ch 1) (cp 1) (sh 1) (sp 1) (ha 1) (lv 1)), (4, cFl 10 11 (ch 2) (cp 2) (sh 2) (sp 2) (ha 2) (lv 2)), (5, cFl 12 13 (ch 3) (cp 3) (sh 3) (sp 3) (ha 3) (lv 3))] (some (.int (-1))) [(50, cSw st rc), (0, .inr (2, [.ref 1, .int ph])), (1, .inl (3, 4, .inr (.inr [some 2, some 3, some 4, some 5]))), (2, cFl 6 7 (ch 0) (cp 0) (sh 0) (sp 0) (ha 0) (lv 0)), (3, cFl 8 9 (ch 1) (cp 1) (sh 1) (sp 1) (ha 1) (lv 1)), (4, cFl 10 11 (ch 2) (cp 2) (sh 2) (sp 2) (ha 2) (lv 2)), (5, cFl 12 13 (ch 3) (cp 3) (sh 3) (sp 3) (ha 3) (lv 3))] := by
  refine mj_ev (lv := [(0, .ref 50), (1, .int k), (2, .int w)]) (by decide +kernel) (Nat.le_of_ble_eq_true rfl) rfl (fun X h => ?_)
  refine mj_blk h.1 b_Sw_flow_0 rfl trivial ?_
  refine mj_callV h zGood (ev_Ft_at_N l D cA _ _ _ _ _ _ _ k hk) v_Ft_at l_Sw_flow_5 d_Sw_flow_5 rfl ⟨by decide, by decide⟩ ⟨by decide, by decide⟩ [(0, 0), (1, 1), (2, 2), (3, 3), (4, 4), (5, 5), (6, 6), (7, 7), (8, 8), (9, 9), (10, 10), (11, 11), (12, 12), (13, 13)] rfl rfl rfl rfl rfl rfl (Nat.le_of_ble_eq_true rfl) ?_
  rintro _ _ ⟨rfl, rfl⟩
  refine mj_k rfl rfl ?_
  refine mj_blk h.1 b_Sw_flow_8 rfl trivial ?_
  refine mj_ifnonnull_n h.1 d_Sw_flow_10 ?_
  refine mj_blk h.1 b_Sw_flow_13 rfl trivial ?_
  exact mj_iret h rfl d_Sw_flow_14 (by decide) (by decide) ⟨rfl, rfl⟩
set_option maxRecDepth 100000 in
set_option maxHeartbeats 4000000 in
theorem ev_Sw_streamAt_0_0 (hl : lv 0 = true) : E0_Sw_streamAt l D cA [.ref 50, .int (nI 0), .int 0] [(50, cSw st rc), (0, .inr (2, [.ref 1, .int ph])), (1, .inl (3, 4, .inr (.inr [some 2, some 3, some 4, some 5]))), (2, cFl 6 7 (ch 0) (cp 0) (sh 0) (sp 0) (ha 0) (lv 0)), (3, cFl 8 9 (ch 1) (cp 1) (sh 1) (sp 1) (ha 1) (lv 1)), (4, cFl 10 11 (ch 2) (cp 2) (sh 2) (sp 2) (ha 2) (lv 2)), (5, cFl 12 13 (ch 3) (cp 3) (sh 3) (sp 3) (ha 3) (lv 3))] (some (.ref 6)) [(50, cSw st rc), (0, .inr (2, [.ref 1, .int ph])), (1, .inl (3, 4, .inr (.inr [some 2, some 3, some 4, some 5]))), (2, cFl 6 7 (ch 0) (cp 0) (sh 0) (sp 0) (ha 0) (lv 0)), (3, cFl 8 9 (ch 1) (cp 1) (sh 1) (sp 1) (ha 1) (lv 1)), (4, cFl 10 11 (ch 2) (cp 2) (sh 2) (sp 2) (ha 2) (lv 2)), (5, cFl 12 13 (ch 3) (cp 3) (sh 3) (sp 3) (ha 3) (lv 3))] := by
  refine mj_ev (lv := [(0, .ref 50), (1, .int (nI 0)), (2, .int 0)]) (by decide +kernel) (Nat.le_of_ble_eq_true rfl) rfl (fun X h => ?_)
  refine mj_blk h.1 b_Sw_streamAt_0 rfl trivial ?_
  refine mj_callV h zGood (ev_Ft_at_0 l D cA _ _ _ _ _ _ _) v_Ft_at l_Sw_streamAt_5 d_Sw_streamAt_5 rfl ⟨by decide, by decide⟩ ⟨by decide, by decide⟩ [(0, 0), (1, 1), (2, 2), (3, 3), (4, 4), (5, 5), (6, 6), (7, 7), (8, 8), (9, 9), (10, 10), (11, 11), (12, 12), (13, 13)] rfl rfl rfl rfl rfl rfl (Nat.le_of_ble_eq_true rfl) ?_
  rintro _ _ ⟨rfl, rfl⟩
  rw [show (if lv 0 = true then Value.ref 2 else Value.null) = Value.ref 2 from if_pos hl]
  refine mj_k rfl rfl ?_
  refine mj_blk h.1 b_Sw_streamAt_8 rfl trivial ?_
  refine mj_ifnonnull_r h.1 d_Sw_streamAt_10 (tgt := 17) (by decide) ?_
  refine mj_blk h.1 b_Sw_streamAt_17 rfl trivial ?_
  refine mj_callV h zGood (ev_Fl_streamOf l D cA _ _ _ _ _ _ 0) v_Fl_streamOf l_Sw_streamAt_19 d_Sw_streamAt_19 rfl ⟨by decide, by decide⟩ ⟨by decide, by decide⟩ [(0, 2), (1, 6), (2, 7)] rfl rfl rfl rfl rfl rfl (Nat.le_of_ble_eq_true rfl) ?_
  rintro _ _ ⟨rfl, rfl⟩
  refine mj_k rfl rfl ?_
  first | exact mj_aret h rfl d_Sw_streamAt_22 (by decide) (by decide) ⟨rfl, rfl⟩ | exact mj_aretN h rfl d_Sw_streamAt_22 (by decide) (by decide) ⟨rfl, rfl⟩
set_option maxRecDepth 100000 in
set_option maxHeartbeats 4000000 in
theorem ev_Sw_streamAt_0_1 (hl : lv 0 = true) : E0_Sw_streamAt l D cA [.ref 50, .int (nI 0), .int 1] [(50, cSw st rc), (0, .inr (2, [.ref 1, .int ph])), (1, .inl (3, 4, .inr (.inr [some 2, some 3, some 4, some 5]))), (2, cFl 6 7 (ch 0) (cp 0) (sh 0) (sp 0) (ha 0) (lv 0)), (3, cFl 8 9 (ch 1) (cp 1) (sh 1) (sp 1) (ha 1) (lv 1)), (4, cFl 10 11 (ch 2) (cp 2) (sh 2) (sp 2) (ha 2) (lv 2)), (5, cFl 12 13 (ch 3) (cp 3) (sh 3) (sp 3) (ha 3) (lv 3))] (some (.ref 7)) [(50, cSw st rc), (0, .inr (2, [.ref 1, .int ph])), (1, .inl (3, 4, .inr (.inr [some 2, some 3, some 4, some 5]))), (2, cFl 6 7 (ch 0) (cp 0) (sh 0) (sp 0) (ha 0) (lv 0)), (3, cFl 8 9 (ch 1) (cp 1) (sh 1) (sp 1) (ha 1) (lv 1)), (4, cFl 10 11 (ch 2) (cp 2) (sh 2) (sp 2) (ha 2) (lv 2)), (5, cFl 12 13 (ch 3) (cp 3) (sh 3) (sp 3) (ha 3) (lv 3))] := by
  refine mj_ev (lv := [(0, .ref 50), (1, .int (nI 0)), (2, .int 1)]) (by decide +kernel) (Nat.le_of_ble_eq_true rfl) rfl (fun X h => ?_)
  refine mj_blk h.1 b_Sw_streamAt_0 rfl trivial ?_
  refine mj_callV h zGood (ev_Ft_at_0 l D cA _ _ _ _ _ _ _) v_Ft_at l_Sw_streamAt_5 d_Sw_streamAt_5 rfl ⟨by decide, by decide⟩ ⟨by decide, by decide⟩ [(0, 0), (1, 1), (2, 2), (3, 3), (4, 4), (5, 5), (6, 6), (7, 7), (8, 8), (9, 9), (10, 10), (11, 11), (12, 12), (13, 13)] rfl rfl rfl rfl rfl rfl (Nat.le_of_ble_eq_true rfl) ?_
  rintro _ _ ⟨rfl, rfl⟩
  rw [show (if lv 0 = true then Value.ref 2 else Value.null) = Value.ref 2 from if_pos hl]
  refine mj_k rfl rfl ?_
  refine mj_blk h.1 b_Sw_streamAt_8 rfl trivial ?_
  refine mj_ifnonnull_r h.1 d_Sw_streamAt_10 (tgt := 17) (by decide) ?_
  refine mj_blk h.1 b_Sw_streamAt_17 rfl trivial ?_
  refine mj_callV h zGood (ev_Fl_streamOf l D cA _ _ _ _ _ _ 1) v_Fl_streamOf l_Sw_streamAt_19 d_Sw_streamAt_19 rfl ⟨by decide, by decide⟩ ⟨by decide, by decide⟩ [(0, 2), (1, 6), (2, 7)] rfl rfl rfl rfl rfl rfl (Nat.le_of_ble_eq_true rfl) ?_
  rintro _ _ ⟨rfl, rfl⟩
  refine mj_k rfl rfl ?_
  first | exact mj_aret h rfl d_Sw_streamAt_22 (by decide) (by decide) ⟨rfl, rfl⟩ | exact mj_aretN h rfl d_Sw_streamAt_22 (by decide) (by decide) ⟨rfl, rfl⟩
set_option maxRecDepth 100000 in
set_option maxHeartbeats 4000000 in
theorem ev_Sw_streamAt_0_w (hl : lv 0 = true) (y : Int32) (h0 : ¬ y = 0) (h1 : ¬ y = 1) : E0_Sw_streamAt l D cA [.ref 50, .int (nI 0), .int y] [(50, cSw st rc), (0, .inr (2, [.ref 1, .int ph])), (1, .inl (3, 4, .inr (.inr [some 2, some 3, some 4, some 5]))), (2, cFl 6 7 (ch 0) (cp 0) (sh 0) (sp 0) (ha 0) (lv 0)), (3, cFl 8 9 (ch 1) (cp 1) (sh 1) (sp 1) (ha 1) (lv 1)), (4, cFl 10 11 (ch 2) (cp 2) (sh 2) (sp 2) (ha 2) (lv 2)), (5, cFl 12 13 (ch 3) (cp 3) (sh 3) (sp 3) (ha 3) (lv 3))] (some .null) [(50, cSw st rc), (0, .inr (2, [.ref 1, .int ph])), (1, .inl (3, 4, .inr (.inr [some 2, some 3, some 4, some 5]))), (2, cFl 6 7 (ch 0) (cp 0) (sh 0) (sp 0) (ha 0) (lv 0)), (3, cFl 8 9 (ch 1) (cp 1) (sh 1) (sp 1) (ha 1) (lv 1)), (4, cFl 10 11 (ch 2) (cp 2) (sh 2) (sp 2) (ha 2) (lv 2)), (5, cFl 12 13 (ch 3) (cp 3) (sh 3) (sp 3) (ha 3) (lv 3))] := by
  refine mj_ev (lv := [(0, .ref 50), (1, .int (nI 0)), (2, .int y)]) (by decide +kernel) (Nat.le_of_ble_eq_true rfl) rfl (fun X h => ?_)
  refine mj_blk h.1 b_Sw_streamAt_0 rfl trivial ?_
  refine mj_callV h zGood (ev_Ft_at_0 l D cA _ _ _ _ _ _ _) v_Ft_at l_Sw_streamAt_5 d_Sw_streamAt_5 rfl ⟨by decide, by decide⟩ ⟨by decide, by decide⟩ [(0, 0), (1, 1), (2, 2), (3, 3), (4, 4), (5, 5), (6, 6), (7, 7), (8, 8), (9, 9), (10, 10), (11, 11), (12, 12), (13, 13)] rfl rfl rfl rfl rfl rfl (Nat.le_of_ble_eq_true rfl) ?_
  rintro _ _ ⟨rfl, rfl⟩
  rw [show (if lv 0 = true then Value.ref 2 else Value.null) = Value.ref 2 from if_pos hl]
  refine mj_k rfl rfl ?_
  refine mj_blk h.1 b_Sw_streamAt_8 rfl trivial ?_
  refine mj_ifnonnull_r h.1 d_Sw_streamAt_10 (tgt := 17) (by decide) ?_
  refine mj_blk h.1 b_Sw_streamAt_17 rfl trivial ?_
  refine mj_callV h zGood (ev_Fl_streamOf l D cA _ _ _ _ _ _ y) v_Fl_streamOf l_Sw_streamAt_19 d_Sw_streamAt_19 rfl ⟨by decide, by decide⟩ ⟨by decide, by decide⟩ [(0, 2), (1, 6), (2, 7)] rfl rfl rfl rfl rfl rfl (Nat.le_of_ble_eq_true rfl) ?_
  rintro _ _ ⟨rfl, rfl⟩
  rw [if_neg h0, if_neg h1]
  refine mj_k rfl rfl ?_
  first | exact mj_aret h rfl d_Sw_streamAt_22 (by decide) (by decide) ⟨rfl, rfl⟩ | exact mj_aretN h rfl d_Sw_streamAt_22 (by decide) (by decide) ⟨rfl, rfl⟩
set_option maxRecDepth 100000 in
set_option maxHeartbeats 4000000 in
theorem ev_Sw_streamAt_0_n (hl : ¬ lv 0 = true) (y : Int32) : E0_Sw_streamAt l D cA [.ref 50, .int (nI 0), .int y] [(50, cSw st rc), (0, .inr (2, [.ref 1, .int ph])), (1, .inl (3, 4, .inr (.inr [some 2, some 3, some 4, some 5]))), (2, cFl 6 7 (ch 0) (cp 0) (sh 0) (sp 0) (ha 0) (lv 0)), (3, cFl 8 9 (ch 1) (cp 1) (sh 1) (sp 1) (ha 1) (lv 1)), (4, cFl 10 11 (ch 2) (cp 2) (sh 2) (sp 2) (ha 2) (lv 2)), (5, cFl 12 13 (ch 3) (cp 3) (sh 3) (sp 3) (ha 3) (lv 3))] (some .null) [(50, cSw st rc), (0, .inr (2, [.ref 1, .int ph])), (1, .inl (3, 4, .inr (.inr [some 2, some 3, some 4, some 5]))), (2, cFl 6 7 (ch 0) (cp 0) (sh 0) (sp 0) (ha 0) (lv 0)), (3, cFl 8 9 (ch 1) (cp 1) (sh 1) (sp 1) (ha 1) (lv 1)), (4, cFl 10 11 (ch 2) (cp 2) (sh 2) (sp 2) (ha 2) (lv 2)), (5, cFl 12 13 (ch 3) (cp 3) (sh 3) (sp 3) (ha 3) (lv 3))] := by
  refine mj_ev (lv := [(0, .ref 50), (1, .int (nI 0)), (2, .int y)]) (by decide +kernel) (Nat.le_of_ble_eq_true rfl) rfl (fun X h => ?_)
  refine mj_blk h.1 b_Sw_streamAt_0 rfl trivial ?_
  refine mj_callV h zGood (ev_Ft_at_0 l D cA _ _ _ _ _ _ _) v_Ft_at l_Sw_streamAt_5 d_Sw_streamAt_5 rfl ⟨by decide, by decide⟩ ⟨by decide, by decide⟩ [(0, 0), (1, 1), (2, 2), (3, 3), (4, 4), (5, 5), (6, 6), (7, 7), (8, 8), (9, 9), (10, 10), (11, 11), (12, 12), (13, 13)] rfl rfl rfl rfl rfl rfl (Nat.le_of_ble_eq_true rfl) ?_
  rintro _ _ ⟨rfl, rfl⟩
  rw [show (if lv 0 = true then Value.ref 2 else Value.null) = Value.null from if_neg hl]
  refine mj_k rfl rfl ?_
  refine mj_blk h.1 b_Sw_streamAt_8 rfl trivial ?_
  refine mj_ifnonnull_n h.1 d_Sw_streamAt_10 ?_
  refine mj_blk h.1 b_Sw_streamAt_13 rfl trivial ?_
  first | exact mj_aret h rfl d_Sw_streamAt_22 (by decide) (by decide) ⟨rfl, rfl⟩ | exact mj_aretN h rfl d_Sw_streamAt_22 (by decide) (by decide) ⟨rfl, rfl⟩
set_option maxRecDepth 100000 in
set_option maxHeartbeats 4000000 in
theorem ev_Sw_streamAt_1_0 (hl : lv 1 = true) : E0_Sw_streamAt l D cA [.ref 50, .int (nI 1), .int 0] [(50, cSw st rc), (0, .inr (2, [.ref 1, .int ph])), (1, .inl (3, 4, .inr (.inr [some 2, some 3, some 4, some 5]))), (2, cFl 6 7 (ch 0) (cp 0) (sh 0) (sp 0) (ha 0) (lv 0)), (3, cFl 8 9 (ch 1) (cp 1) (sh 1) (sp 1) (ha 1) (lv 1)), (4, cFl 10 11 (ch 2) (cp 2) (sh 2) (sp 2) (ha 2) (lv 2)), (5, cFl 12 13 (ch 3) (cp 3) (sh 3) (sp 3) (ha 3) (lv 3))] (some (.ref 8)) [(50, cSw st rc), (0, .inr (2, [.ref 1, .int ph])), (1, .inl (3, 4, .inr (.inr [some 2, some 3, some 4, some 5]))), (2, cFl 6 7 (ch 0) (cp 0) (sh 0) (sp 0) (ha 0) (lv 0)), (3, cFl 8 9 (ch 1) (cp 1) (sh 1) (sp 1) (ha 1) (lv 1)), (4, cFl 10 11 (ch 2) (cp 2) (sh 2) (sp 2) (ha 2) (lv 2)), (5, cFl 12 13 (ch 3) (cp 3) (sh 3) (sp 3) (ha 3) (lv 3))] := by
  refine mj_ev (lv := [(0, .ref 50), (1, .int (nI 1)), (2, .int 0)]) (by decide +kernel) (Nat.le_of_ble_eq_true rfl) rfl (fun X h => ?_)
  refine mj_blk h.1 b_Sw_streamAt_0 rfl trivial ?_
  refine mj_callV h zGood (ev_Ft_at_1 l D cA _ _ _ _ _ _ _) v_Ft_at l_Sw_streamAt_5 d_Sw_streamAt_5 rfl ⟨by decide, by decide⟩ ⟨by decide, by decide⟩ [(0, 0), (1, 1), (2, 2), (3, 3), (4, 4), (5, 5), (6, 6), (7, 7), (8, 8), (9, 9), (10, 10), (11, 11), (12, 12), (13, 13)] rfl rfl rfl rfl rfl rfl (Nat.le_of_ble_eq_true rfl) ?_
  rintro _ _ ⟨rfl, rfl⟩
  rw [show (if lv 1 = true then Value.ref 3 else Value.null) = Value.ref 3 from if_pos hl]
  refine mj_k rfl rfl ?_
  refine mj_blk h.1 b_Sw_streamAt_8 rfl trivial ?_
  refine mj_ifnonnull_r h.1 d_Sw_streamAt_10 (tgt := 17) (by decide) ?_
  refine mj_blk h.1 b_Sw_streamAt_17 rfl trivial ?_
  refine mj_callV h zGood (ev_Fl_streamOf l D cA _ _ _ _ _ _ 0) v_Fl_streamOf l_Sw_streamAt_19 d_Sw_streamAt_19 rfl ⟨by decide, by decide⟩ ⟨by decide, by decide⟩ [(0, 3), (1, 8), (2, 9)] rfl rfl rfl rfl rfl rfl (Nat.le_of_ble_eq_true rfl) ?_
  rintro _ _ ⟨rfl, rfl⟩
  refine mj_k rfl rfl ?_
  first | exact mj_aret h rfl d_Sw_streamAt_22 (by decide) (by decide) ⟨rfl, rfl⟩ | exact mj_aretN h rfl d_Sw_streamAt_22 (by decide) (by decide) ⟨rfl, rfl⟩
set_option maxRecDepth 100000 in
set_option maxHeartbeats 4000000 in
theorem ev_Sw_streamAt_1_1 (hl : lv 1 = true) : E0_Sw_streamAt l D cA [.ref 50, .int (nI 1), .int 1] [(50, cSw st rc), (0, .inr (2, [.ref 1, .int ph])), (1, .inl (3, 4, .inr (.inr [some 2, some 3, some 4, some 5]))), (2, cFl 6 7 (ch 0) (cp 0) (sh 0) (sp 0) (ha 0) (lv 0)), (3, cFl 8 9 (ch 1) (cp 1) (sh 1) (sp 1) (ha 1) (lv 1)), (4, cFl 10 11 (ch 2) (cp 2) (sh 2) (sp 2) (ha 2) (lv 2)), (5, cFl 12 13 (ch 3) (cp 3) (sh 3) (sp 3) (ha 3) (lv 3))] (some (.ref 9)) [(50, cSw st rc), (0, .inr (2, [.ref 1, .int ph])), (1, .inl (3, 4, .inr (.inr [some 2, some 3, some 4, some 5]))), (2, cFl 6 7 (ch 0) (cp 0) (sh 0) (sp 0) (ha 0) (lv 0)), (3, cFl 8 9 (ch 1) (cp 1) (sh 1) (sp 1) (ha 1) (lv 1)), (4, cFl 10 11 (ch 2) (cp 2) (sh 2) (sp 2) (ha 2) (lv 2)), (5, cFl 12 13 (ch 3) (cp 3) (sh 3) (sp 3) (ha 3) (lv 3))] := by
  refine mj_ev (lv := [(0, .ref 50), (1, .int (nI 1)), (2, .int 1)]) (by decide +kernel) (Nat.le_of_ble_eq_true rfl) rfl (fun X h => ?_)
  refine mj_blk h.1 b_Sw_streamAt_0 rfl trivial ?_
  refine mj_callV h zGood (ev_Ft_at_1 l D cA _ _ _ _ _ _ _) v_Ft_at l_Sw_streamAt_5 d_Sw_streamAt_5 rfl ⟨by decide, by decide⟩ ⟨by decide, by decide⟩ [(0, 0), (1, 1), (2, 2), (3, 3), (4, 4), (5, 5), (6, 6), (7, 7), (8, 8), (9, 9), (10, 10), (11, 11), (12, 12), (13, 13)] rfl rfl rfl rfl rfl rfl (Nat.le_of_ble_eq_true rfl) ?_
  rintro _ _ ⟨rfl, rfl⟩
  rw [show (if lv 1 = true then Value.ref 3 else Value.null) = Value.ref 3 from if_pos hl]
  refine mj_k rfl rfl ?_
  refine mj_blk h.1 b_Sw_streamAt_8 rfl trivial ?_
  refine mj_ifnonnull_r h.1 d_Sw_streamAt_10 (tgt := 17) (by decide) ?_
  refine mj_blk h.1 b_Sw_streamAt_17 rfl trivial ?_
  refine mj_callV h zGood (ev_Fl_streamOf l D cA _ _ _ _ _ _ 1) v_Fl_streamOf l_Sw_streamAt_19 d_Sw_streamAt_19 rfl ⟨by decide, by decide⟩ ⟨by decide, by decide⟩ [(0, 3), (1, 8), (2, 9)] rfl rfl rfl rfl rfl rfl (Nat.le_of_ble_eq_true rfl) ?_
  rintro _ _ ⟨rfl, rfl⟩
  refine mj_k rfl rfl ?_
  first | exact mj_aret h rfl d_Sw_streamAt_22 (by decide) (by decide) ⟨rfl, rfl⟩ | exact mj_aretN h rfl d_Sw_streamAt_22 (by decide) (by decide) ⟨rfl, rfl⟩
set_option maxRecDepth 100000 in
set_option maxHeartbeats 4000000 in
theorem ev_Sw_streamAt_1_w (hl : lv 1 = true) (y : Int32) (h0 : ¬ y = 0) (h1 : ¬ y = 1) : E0_Sw_streamAt l D cA [.ref 50, .int (nI 1), .int y] [(50, cSw st rc), (0, .inr (2, [.ref 1, .int ph])), (1, .inl (3, 4, .inr (.inr [some 2, some 3, some 4, some 5]))), (2, cFl 6 7 (ch 0) (cp 0) (sh 0) (sp 0) (ha 0) (lv 0)), (3, cFl 8 9 (ch 1) (cp 1) (sh 1) (sp 1) (ha 1) (lv 1)), (4, cFl 10 11 (ch 2) (cp 2) (sh 2) (sp 2) (ha 2) (lv 2)), (5, cFl 12 13 (ch 3) (cp 3) (sh 3) (sp 3) (ha 3) (lv 3))] (some .null) [(50, cSw st rc), (0, .inr (2, [.ref 1, .int ph])), (1, .inl (3, 4, .inr (.inr [some 2, some 3, some 4, some 5]))), (2, cFl 6 7 (ch 0) (cp 0) (sh 0) (sp 0) (ha 0) (lv 0)), (3, cFl 8 9 (ch 1) (cp 1) (sh 1) (sp 1) (ha 1) (lv 1)), (4, cFl 10 11 (ch 2) (cp 2) (sh 2) (sp 2) (ha 2) (lv 2)), (5, cFl 12 13 (ch 3) (cp 3) (sh 3) (sp 3) (ha 3) (lv 3))] := by
  refine mj_ev (lv := [(0, .ref 50), (1, .int (nI 1)), (2, .int y)]) (by decide +kernel) (Nat.le_of_ble_eq_true rfl) rfl (fun X h => ?_)
  refine mj_blk h.1 b_Sw_streamAt_0 rfl trivial ?_
  refine mj_callV h zGood (ev_Ft_at_1 l D cA _ _ _ _ _ _ _) v_Ft_at l_Sw_streamAt_5 d_Sw_streamAt_5 rfl ⟨by decide, by decide⟩ ⟨by decide, by decide⟩ [(0, 0), (1, 1), (2, 2), (3, 3), (4, 4), (5, 5), (6, 6), (7, 7), (8, 8), (9, 9), (10, 10), (11, 11), (12, 12), (13, 13)] rfl rfl rfl rfl rfl rfl (Nat.le_of_ble_eq_true rfl) ?_
  rintro _ _ ⟨rfl, rfl⟩
  rw [show (if lv 1 = true then Value.ref 3 else Value.null) = Value.ref 3 from if_pos hl]
  refine mj_k rfl rfl ?_
  refine mj_blk h.1 b_Sw_streamAt_8 rfl trivial ?_
  refine mj_ifnonnull_r h.1 d_Sw_streamAt_10 (tgt := 17) (by decide) ?_
  refine mj_blk h.1 b_Sw_streamAt_17 rfl trivial ?_
  refine mj_callV h zGood (ev_Fl_streamOf l D cA _ _ _ _ _ _ y) v_Fl_streamOf l_Sw_streamAt_19 d_Sw_streamAt_19 rfl ⟨by decide, by decide⟩ ⟨by decide, by decide⟩ [(0, 3), (1, 8), (2, 9)] rfl rfl rfl rfl rfl rfl (Nat.le_of_ble_eq_true rfl) ?_
  rintro _ _ ⟨rfl, rfl⟩
  rw [if_neg h0, if_neg h1]
  refine mj_k rfl rfl ?_
  first | exact mj_aret h rfl d_Sw_streamAt_22 (by decide) (by decide) ⟨rfl, rfl⟩ | exact mj_aretN h rfl d_Sw_streamAt_22 (by decide) (by decide) ⟨rfl, rfl⟩
set_option maxRecDepth 100000 in
set_option maxHeartbeats 4000000 in
theorem ev_Sw_streamAt_1_n (hl : ¬ lv 1 = true) (y : Int32) : E0_Sw_streamAt l D cA [.ref 50, .int (nI 1), .int y] [(50, cSw st rc), (0, .inr (2, [.ref 1, .int ph])), (1, .inl (3, 4, .inr (.inr [some 2, some 3, some 4, some 5]))), (2, cFl 6 7 (ch 0) (cp 0) (sh 0) (sp 0) (ha 0) (lv 0)), (3, cFl 8 9 (ch 1) (cp 1) (sh 1) (sp 1) (ha 1) (lv 1)), (4, cFl 10 11 (ch 2) (cp 2) (sh 2) (sp 2) (ha 2) (lv 2)), (5, cFl 12 13 (ch 3) (cp 3) (sh 3) (sp 3) (ha 3) (lv 3))] (some .null) [(50, cSw st rc), (0, .inr (2, [.ref 1, .int ph])), (1, .inl (3, 4, .inr (.inr [some 2, some 3, some 4, some 5]))), (2, cFl 6 7 (ch 0) (cp 0) (sh 0) (sp 0) (ha 0) (lv 0)), (3, cFl 8 9 (ch 1) (cp 1) (sh 1) (sp 1) (ha 1) (lv 1)), (4, cFl 10 11 (ch 2) (cp 2) (sh 2) (sp 2) (ha 2) (lv 2)), (5, cFl 12 13 (ch 3) (cp 3) (sh 3) (sp 3) (ha 3) (lv 3))] := by
  refine mj_ev (lv := [(0, .ref 50), (1, .int (nI 1)), (2, .int y)]) (by decide +kernel) (Nat.le_of_ble_eq_true rfl) rfl (fun X h => ?_)
  refine mj_blk h.1 b_Sw_streamAt_0 rfl trivial ?_
  refine mj_callV h zGood (ev_Ft_at_1 l D cA _ _ _ _ _ _ _) v_Ft_at l_Sw_streamAt_5 d_Sw_streamAt_5 rfl ⟨by decide, by decide⟩ ⟨by decide, by decide⟩ [(0, 0), (1, 1), (2, 2), (3, 3), (4, 4), (5, 5), (6, 6), (7, 7), (8, 8), (9, 9), (10, 10), (11, 11), (12, 12), (13, 13)] rfl rfl rfl rfl rfl rfl (Nat.le_of_ble_eq_true rfl) ?_
  rintro _ _ ⟨rfl, rfl⟩
  rw [show (if lv 1 = true then Value.ref 3 else Value.null) = Value.null from if_neg hl]
  refine mj_k rfl rfl ?_
  refine mj_blk h.1 b_Sw_streamAt_8 rfl trivial ?_
  refine mj_ifnonnull_n h.1 d_Sw_streamAt_10 ?_
  refine mj_blk h.1 b_Sw_streamAt_13 rfl trivial ?_
  first | exact mj_aret h rfl d_Sw_streamAt_22 (by decide) (by decide) ⟨rfl, rfl⟩ | exact mj_aretN h rfl d_Sw_streamAt_22 (by decide) (by decide) ⟨rfl, rfl⟩
set_option maxRecDepth 100000 in
set_option maxHeartbeats 4000000 in
theorem ev_Sw_streamAt_2_0 (hl : lv 2 = true) : E0_Sw_streamAt l D cA [.ref 50, .int (nI 2), .int 0] [(50, cSw st rc), (0, .inr (2, [.ref 1, .int ph])), (1, .inl (3, 4, .inr (.inr [some 2, some 3, some 4, some 5]))), (2, cFl 6 7 (ch 0) (cp 0) (sh 0) (sp 0) (ha 0) (lv 0)), (3, cFl 8 9 (ch 1) (cp 1) (sh 1) (sp 1) (ha 1) (lv 1)), (4, cFl 10 11 (ch 2) (cp 2) (sh 2) (sp 2) (ha 2) (lv 2)), (5, cFl 12 13 (ch 3) (cp 3) (sh 3) (sp 3) (ha 3) (lv 3))] (some (.ref 10)) [(50, cSw st rc), (0, .inr (2, [.ref 1, .int ph])), (1, .inl (3, 4, .inr (.inr [some 2, some 3, some 4, some 5]))), (2, cFl 6 7 (ch 0) (cp 0) (sh 0) (sp 0) (ha 0) (lv 0)), (3, cFl 8 9 (ch 1) (cp 1) (sh 1) (sp 1) (ha 1) (lv 1)), (4, cFl 10 11 (ch 2) (cp 2) (sh 2) (sp 2) (ha 2) (lv 2)), (5, cFl 12 13 (ch 3) (cp 3) (sh 3) (sp 3) (ha 3) (lv 3))] := by
  refine mj_ev (lv := [(0, .ref 50), (1, .int (nI 2)), (2, .int 0)]) (by decide +kernel) (Nat.le_of_ble_eq_true rfl) rfl (fun X h => ?_)
  refine mj_blk h.1 b_Sw_streamAt_0 rfl trivial ?_
  refine mj_callV h zGood (ev_Ft_at_2 l D cA _ _ _ _ _ _ _) v_Ft_at l_Sw_streamAt_5 d_Sw_streamAt_5 rfl ⟨by decide, by decide⟩ ⟨by decide, by decide⟩ [(0, 0), (1, 1), (2, 2), (3, 3), (4, 4), (5, 5), (6, 6), (7, 7), (8, 8), (9, 9), (10, 10), (11, 11), (12, 12), (13, 13)] rfl rfl rfl rfl rfl rfl (Nat.le_of_ble_eq_true rfl) ?_
  rintro _ _ ⟨rfl, rfl⟩
  rw [show (if lv 2 = true then Value.ref 4 else Value.null) = Value.ref 4 from if_pos hl]
  refine mj_k rfl rfl ?_
  refine mj_blk h.1 b_Sw_streamAt_8 rfl trivial ?_
  refine mj_ifnonnull_r h.1 d_Sw_streamAt_10 (tgt := 17) (by decide) ?_
  refine mj_blk h.1 b_Sw_streamAt_17 rfl trivial ?_
  refine mj_callV h zGood (ev_Fl_streamOf l D cA _ _ _ _ _ _ 0) v_Fl_streamOf l_Sw_streamAt_19 d_Sw_streamAt_19 rfl ⟨by decide, by decide⟩ ⟨by decide, by decide⟩ [(0, 4), (1, 10), (2, 11)] rfl rfl rfl rfl rfl rfl (Nat.le_of_ble_eq_true rfl) ?_
  rintro _ _ ⟨rfl, rfl⟩
  refine mj_k rfl rfl ?_
  first | exact mj_aret h rfl d_Sw_streamAt_22 (by decide) (by decide) ⟨rfl, rfl⟩ | exact mj_aretN h rfl d_Sw_streamAt_22 (by decide) (by decide) ⟨rfl, rfl⟩
set_option maxRecDepth 100000 in
set_option maxHeartbeats 4000000 in
theorem ev_Sw_streamAt_2_1 (hl : lv 2 = true) : E0_Sw_streamAt l D cA [.ref 50, .int (nI 2), .int 1] [(50, cSw st rc), (0, .inr (2, [.ref 1, .int ph])), (1, .inl (3, 4, .inr (.inr [some 2, some 3, some 4, some 5]))), (2, cFl 6 7 (ch 0) (cp 0) (sh 0) (sp 0) (ha 0) (lv 0)), (3, cFl 8 9 (ch 1) (cp 1) (sh 1) (sp 1) (ha 1) (lv 1)), (4, cFl 10 11 (ch 2) (cp 2) (sh 2) (sp 2) (ha 2) (lv 2)), (5, cFl 12 13 (ch 3) (cp 3) (sh 3) (sp 3) (ha 3) (lv 3))] (some (.ref 11)) [(50, cSw st rc), (0, .inr (2, [.ref 1, .int ph])), (1, .inl (3, 4, .inr (.inr [some 2, some 3, some 4, some 5]))), (2, cFl 6 7 (ch 0) (cp 0) (sh 0) (sp 0) (ha 0) (lv 0)), (3, cFl 8 9 (ch 1) (cp 1) (sh 1) (sp 1) (ha 1) (lv 1)), (4, cFl 10 11 (ch 2) (cp 2) (sh 2) (sp 2) (ha 2) (lv 2)), (5, cFl 12 13 (ch 3) (cp 3) (sh 3) (sp 3) (ha 3) (lv 3))] := by
  refine mj_ev (lv := [(0, .ref 50), (1, .int (nI 2)), (2, .int 1)]) (by decide +kernel) (Nat.le_of_ble_eq_true rfl) rfl (fun X h => ?_)
  refine mj_blk h.1 b_Sw_streamAt_0 rfl trivial ?_
  refine mj_callV h zGood (ev_Ft_at_2 l D cA _ _ _ _ _ _ _) v_Ft_at l_Sw_streamAt_5 d_Sw_streamAt_5 rfl ⟨by decide, by decide⟩ ⟨by decide, by decide⟩ [(0, 0), (1, 1), (2, 2), (3, 3), (4, 4), (5, 5), (6, 6), (7, 7), (8, 8), (9, 9), (10, 10), (11, 11), (12, 12), (13, 13)] rfl rfl rfl rfl rfl rfl (Nat.le_of_ble_eq_true rfl) ?_
  rintro _ _ ⟨rfl, rfl⟩
  rw [show (if lv 2 = true then Value.ref 4 else Value.null) = Value.ref 4 from if_pos hl]
  refine mj_k rfl rfl ?_
  refine mj_blk h.1 b_Sw_streamAt_8 rfl trivial ?_
  refine mj_ifnonnull_r h.1 d_Sw_streamAt_10 (tgt := 17) (by decide) ?_
  refine mj_blk h.1 b_Sw_streamAt_17 rfl trivial ?_
  refine mj_callV h zGood (ev_Fl_streamOf l D cA _ _ _ _ _ _ 1) v_Fl_streamOf l_Sw_streamAt_19 d_Sw_streamAt_19 rfl ⟨by decide, by decide⟩ ⟨by decide, by decide⟩ [(0, 4), (1, 10), (2, 11)] rfl rfl rfl rfl rfl rfl (Nat.le_of_ble_eq_true rfl) ?_
  rintro _ _ ⟨rfl, rfl⟩
  refine mj_k rfl rfl ?_
  first | exact mj_aret h rfl d_Sw_streamAt_22 (by decide) (by decide) ⟨rfl, rfl⟩ | exact mj_aretN h rfl d_Sw_streamAt_22 (by decide) (by decide) ⟨rfl, rfl⟩
set_option maxRecDepth 100000 in
set_option maxHeartbeats 4000000 in
theorem ev_Sw_streamAt_2_w (hl : lv 2 = true) (y : Int32) (h0 : ¬ y = 0) (h1 : ¬ y = 1) : E0_Sw_streamAt l D cA [.ref 50, .int (nI 2), .int y] [(50, cSw st rc), (0, .inr (2, [.ref 1, .int ph])), (1, .inl (3, 4, .inr (.inr [some 2, some 3, some 4, some 5]))), (2, cFl 6 7 (ch 0) (cp 0) (sh 0) (sp 0) (ha 0) (lv 0)), (3, cFl 8 9 (ch 1) (cp 1) (sh 1) (sp 1) (ha 1) (lv 1)), (4, cFl 10 11 (ch 2) (cp 2) (sh 2) (sp 2) (ha 2) (lv 2)), (5, cFl 12 13 (ch 3) (cp 3) (sh 3) (sp 3) (ha 3) (lv 3))] (some .null) [(50, cSw st rc), (0, .inr (2, [.ref 1, .int ph])), (1, .inl (3, 4, .inr (.inr [some 2, some 3, some 4, some 5]))), (2, cFl 6 7 (ch 0) (cp 0) (sh 0) (sp 0) (ha 0) (lv 0)), (3, cFl 8 9 (ch 1) (cp 1) (sh 1) (sp 1) (ha 1) (lv 1)), (4, cFl 10 11 (ch 2) (cp 2) (sh 2) (sp 2) (ha 2) (lv 2)), (5, cFl 12 13 (ch 3) (cp 3) (sh 3) (sp 3) (ha 3) (lv 3))] := by
  refine mj_ev (lv := [(0, .ref 50), (1, .int (nI 2)), (2, .int y)]) (by decide +kernel) (Nat.le_of_ble_eq_true rfl) rfl (fun X h => ?_)
  refine mj_blk h.1 b_Sw_streamAt_0 rfl trivial ?_
  refine mj_callV h zGood (ev_Ft_at_2 l D cA _ _ _ _ _ _ _) v_Ft_at l_Sw_streamAt_5 d_Sw_streamAt_5 rfl ⟨by decide, by decide⟩ ⟨by decide, by decide⟩ [(0, 0), (1, 1), (2, 2), (3, 3), (4, 4), (5, 5), (6, 6), (7, 7), (8, 8), (9, 9), (10, 10), (11, 11), (12, 12), (13, 13)] rfl rfl rfl rfl rfl rfl (Nat.le_of_ble_eq_true rfl) ?_
  rintro _ _ ⟨rfl, rfl⟩
  rw [show (if lv 2 = true then Value.ref 4 else Value.null) = Value.ref 4 from if_pos hl]
  refine mj_k rfl rfl ?_
  refine mj_blk h.1 b_Sw_streamAt_8 rfl trivial ?_
  refine mj_ifnonnull_r h.1 d_Sw_streamAt_10 (tgt := 17) (by decide) ?_
  refine mj_blk h.1 b_Sw_streamAt_17 rfl trivial ?_
  refine mj_callV h zGood (ev_Fl_streamOf l D cA _ _ _ _ _ _ y) v_Fl_streamOf l_Sw_streamAt_19 d_Sw_streamAt_19 rfl ⟨by decide, by decide⟩ ⟨by decide, by decide⟩ [(0, 4), (1, 10), (2, 11)] rfl rfl rfl rfl rfl rfl (Nat.le_of_ble_eq_true rfl) ?_
  rintro _ _ ⟨rfl, rfl⟩
  rw [if_neg h0, if_neg h1]
  refine mj_k rfl rfl ?_
  first | exact mj_aret h rfl d_Sw_streamAt_22 (by decide) (by decide) ⟨rfl, rfl⟩ | exact mj_aretN h rfl d_Sw_streamAt_22 (by decide) (by decide) ⟨rfl, rfl⟩
set_option maxRecDepth 100000 in
set_option maxHeartbeats 4000000 in
theorem ev_Sw_streamAt_2_n (hl : ¬ lv 2 = true) (y : Int32) : E0_Sw_streamAt l D cA [.ref 50, .int (nI 2), .int y] [(50, cSw st rc), (0, .inr (2, [.ref 1, .int ph])), (1, .inl (3, 4, .inr (.inr [some 2, some 3, some 4, some 5]))), (2, cFl 6 7 (ch 0) (cp 0) (sh 0) (sp 0) (ha 0) (lv 0)), (3, cFl 8 9 (ch 1) (cp 1) (sh 1) (sp 1) (ha 1) (lv 1)), (4, cFl 10 11 (ch 2) (cp 2) (sh 2) (sp 2) (ha 2) (lv 2)), (5, cFl 12 13 (ch 3) (cp 3) (sh 3) (sp 3) (ha 3) (lv 3))] (some .null) [(50, cSw st rc), (0, .inr (2, [.ref 1, .int ph])), (1, .inl (3, 4, .inr (.inr [some 2, some 3, some 4, some 5]))), (2, cFl 6 7 (ch 0) (cp 0) (sh 0) (sp 0) (ha 0) (lv 0)), (3, cFl 8 9 (ch 1) (cp 1) (sh 1) (sp 1) (ha 1) (lv 1)), (4, cFl 10 11 (ch 2) (cp 2) (sh 2) (sp 2) (ha 2) (lv 2)), (5, cFl 12 13 (ch 3) (cp 3) (sh 3) (sp 3) (ha 3) (lv 3))] := by
  refine mj_ev (lv := [(0, .ref 50), (1, .int (nI 2)), (2, .int y)]) (by decide +kernel) (Nat.le_of_ble_eq_true rfl) rfl (fun X h => ?_)
  refine mj_blk h.1 b_Sw_streamAt_0 rfl trivial ?_
  refine mj_callV h zGood (ev_Ft_at_2 l D cA _ _ _ _ _ _ _) v_Ft_at l_Sw_streamAt_5 d_Sw_streamAt_5 rfl ⟨by decide, by decide⟩ ⟨by decide, by decide⟩ [(0, 0), (1, 1), (2, 2), (3, 3), (4, 4), (5, 5), (6, 6), (7, 7), (8, 8), (9, 9), (10, 10), (11, 11), (12, 12), (13, 13)] rfl rfl rfl rfl rfl rfl (Nat.le_of_ble_eq_true rfl) ?_
  rintro _ _ ⟨rfl, rfl⟩
  rw [show (if lv 2 = true then Value.ref 4 else Value.null) = Value.null from if_neg hl]
  refine mj_k rfl rfl ?_
  refine mj_blk h.1 b_Sw_streamAt_8 rfl trivial ?_
  refine mj_ifnonnull_n h.1 d_Sw_streamAt_10 ?_
  refine mj_blk h.1 b_Sw_streamAt_13 rfl trivial ?_
  first | exact mj_aret h rfl d_Sw_streamAt_22 (by decide) (by decide) ⟨rfl, rfl⟩ | exact mj_aretN h rfl d_Sw_streamAt_22 (by decide) (by decide) ⟨rfl, rfl⟩
set_option maxRecDepth 100000 in
set_option maxHeartbeats 4000000 in
theorem ev_Sw_streamAt_3_0 (hl : lv 3 = true) : E0_Sw_streamAt l D cA [.ref 50, .int (nI 3), .int 0] [(50, cSw st rc), (0, .inr (2, [.ref 1, .int ph])), (1, .inl (3, 4, .inr (.inr [some 2, some 3, some 4, some 5]))), (2, cFl 6 7 (ch 0) (cp 0) (sh 0) (sp 0) (ha 0) (lv 0)), (3, cFl 8 9 (ch 1) (cp 1) (sh 1) (sp 1) (ha 1) (lv 1)), (4, cFl 10 11 (ch 2) (cp 2) (sh 2) (sp 2) (ha 2) (lv 2)), (5, cFl 12 13 (ch 3) (cp 3) (sh 3) (sp 3) (ha 3) (lv 3))] (some (.ref 12)) [(50, cSw st rc), (0, .inr (2, [.ref 1, .int ph])), (1, .inl (3, 4, .inr (.inr [some 2, some 3, some 4, some 5]))), (2, cFl 6 7 (ch 0) (cp 0) (sh 0) (sp 0) (ha 0) (lv 0)), (3, cFl 8 9 (ch 1) (cp 1) (sh 1) (sp 1) (ha 1) (lv 1)), (4, cFl 10 11 (ch 2) (cp 2) (sh 2) (sp 2) (ha 2) (lv 2)), (5, cFl 12 13 (ch 3) (cp 3) (sh 3) (sp 3) (ha 3) (lv 3))] := by
  refine mj_ev (lv := [(0, .ref 50), (1, .int (nI 3)), (2, .int 0)]) (by decide +kernel) (Nat.le_of_ble_eq_true rfl) rfl (fun X h => ?_)
  refine mj_blk h.1 b_Sw_streamAt_0 rfl trivial ?_
  refine mj_callV h zGood (ev_Ft_at_3 l D cA _ _ _ _ _ _ _) v_Ft_at l_Sw_streamAt_5 d_Sw_streamAt_5 rfl ⟨by decide, by decide⟩ ⟨by decide, by decide⟩ [(0, 0), (1, 1), (2, 2), (3, 3), (4, 4), (5, 5), (6, 6), (7, 7), (8, 8), (9, 9), (10, 10), (11, 11), (12, 12), (13, 13)] rfl rfl rfl rfl rfl rfl (Nat.le_of_ble_eq_true rfl) ?_
  rintro _ _ ⟨rfl, rfl⟩
  rw [show (if lv 3 = true then Value.ref 5 else Value.null) = Value.ref 5 from if_pos hl]
  refine mj_k rfl rfl ?_
  refine mj_blk h.1 b_Sw_streamAt_8 rfl trivial ?_
  refine mj_ifnonnull_r h.1 d_Sw_streamAt_10 (tgt := 17) (by decide) ?_
  refine mj_blk h.1 b_Sw_streamAt_17 rfl trivial ?_
  refine mj_callV h zGood (ev_Fl_streamOf l D cA _ _ _ _ _ _ 0) v_Fl_streamOf l_Sw_streamAt_19 d_Sw_streamAt_19 rfl ⟨by decide, by decide⟩ ⟨by decide, by decide⟩ [(0, 5), (1, 12), (2, 13)] rfl rfl rfl rfl rfl rfl (Nat.le_of_ble_eq_true rfl) ?_
  rintro _ _ ⟨rfl, rfl⟩
  refine mj_k rfl rfl ?_
  first | exact mj_aret h rfl d_Sw_streamAt_22 (by decide) (by decide) ⟨rfl, rfl⟩ | exact mj_aretN h rfl d_Sw_streamAt_22 (by decide) (by decide) ⟨rfl, rfl⟩
set_option maxRecDepth 100000 in
set_option maxHeartbeats 4000000 in
theorem ev_Sw_streamAt_3_1 (hl : lv 3 = true) : E0_Sw_streamAt l D cA [.ref 50, .int (nI 3), .int 1] [(50, cSw st rc), (0, .inr (2, [.ref 1, .int ph])), (1, .inl (3, 4, .inr (.inr [some 2, some 3, some 4, some 5]))), (2, cFl 6 7 (ch 0) (cp 0) (sh 0) (sp 0) (ha 0) (lv 0)), (3, cFl 8 9 (ch 1) (cp 1) (sh 1) (sp 1) (ha 1) (lv 1)), (4, cFl 10 11 (ch 2) (cp 2) (sh 2) (sp 2) (ha 2) (lv 2)), (5, cFl 12 13 (ch 3) (cp 3) (sh 3) (sp 3) (ha 3) (lv 3))] (some (.ref 13)) [(50, cSw st rc), (0, .inr (2, [.ref 1, .int ph])), (1, .inl (3, 4, .inr (.inr [some 2, some 3, some 4, some 5]))), (2, cFl 6 7 (ch 0) (cp 0) (sh 0) (sp 0) (ha 0) (lv 0)), (3, cFl 8 9 (ch 1) (cp 1) (sh 1) (sp 1) (ha 1) (lv 1)), (4, cFl 10 11 (ch 2) (cp 2) (sh 2) (sp 2) (ha 2) (lv 2)), (5, cFl 12 13 (ch 3) (cp 3) (sh 3) (sp 3) (ha 3) (lv 3))] := by
  refine mj_ev (lv := [(0, .ref 50), (1, .int (nI 3)), (2, .int 1)]) (by decide +kernel) (Nat.le_of_ble_eq_true rfl) rfl (fun X h => ?_)
  refine mj_blk h.1 b_Sw_streamAt_0 rfl trivial ?_
  refine mj_callV h zGood (ev_Ft_at_3 l D cA _ _ _ _ _ _ _) v_Ft_at l_Sw_streamAt_5 d_Sw_streamAt_5 rfl ⟨by decide, by decide⟩ ⟨by decide, by decide⟩ [(0, 0), (1, 1), (2, 2), (3, 3), (4, 4), (5, 5), (6, 6), (7, 7), (8, 8), (9, 9), (10, 10), (11, 11), (12, 12), (13, 13)] rfl rfl rfl rfl rfl rfl (Nat.le_of_ble_eq_true rfl) ?_
  rintro _ _ ⟨rfl, rfl⟩
  rw [show (if lv 3 = true then Value.ref 5 else Value.null) = Value.ref 5 from if_pos hl]
  refine mj_k rfl rfl ?_
  refine mj_blk h.1 b_Sw_streamAt_8 rfl trivial ?_
  refine mj_ifnonnull_r h.1 d_Sw_streamAt_10 (tgt := 17) (by decide) ?_
  refine mj_blk h.1 b_Sw_streamAt_17 rfl trivial ?_
  refine mj_callV h zGood (ev_Fl_streamOf l D cA _ _ _ _ _ _ 1) v_Fl_streamOf l_Sw_streamAt_19 d_Sw_streamAt_19 rfl ⟨by decide, by decide⟩ ⟨by decide, by decide⟩ [(0, 5), (1, 12), (2, 13)] rfl rfl rfl rfl rfl rfl (Nat.le_of_ble_eq_true rfl) ?_
  rintro _ _ ⟨rfl, rfl⟩
  refine mj_k rfl rfl ?_
  first | exact mj_aret h rfl d_Sw_streamAt_22 (by decide) (by decide) ⟨rfl, rfl⟩ | exact mj_aretN h rfl d_Sw_streamAt_22 (by decide) (by decide) ⟨rfl, rfl⟩
set_option maxRecDepth 100000 in
set_option maxHeartbeats 4000000 in
theorem ev_Sw_streamAt_3_w (hl : lv 3 = true) (y : Int32) (h0 : ¬ y = 0) (h1 : ¬ y = 1) : E0_Sw_streamAt l D cA [.ref 50, .int (nI 3), .int y] [(50, cSw st rc), (0, .inr (2, [.ref 1, .int ph])), (1, .inl (3, 4, .inr (.inr [some 2, some 3, some 4, some 5]))), (2, cFl 6 7 (ch 0) (cp 0) (sh 0) (sp 0) (ha 0) (lv 0)), (3, cFl 8 9 (ch 1) (cp 1) (sh 1) (sp 1) (ha 1) (lv 1)), (4, cFl 10 11 (ch 2) (cp 2) (sh 2) (sp 2) (ha 2) (lv 2)), (5, cFl 12 13 (ch 3) (cp 3) (sh 3) (sp 3) (ha 3) (lv 3))] (some .null) [(50, cSw st rc), (0, .inr (2, [.ref 1, .int ph])), (1, .inl (3, 4, .inr (.inr [some 2, some 3, some 4, some 5]))), (2, cFl 6 7 (ch 0) (cp 0) (sh 0) (sp 0) (ha 0) (lv 0)), (3, cFl 8 9 (ch 1) (cp 1) (sh 1) (sp 1) (ha 1) (lv 1)), (4, cFl 10 11 (ch 2) (cp 2) (sh 2) (sp 2) (ha 2) (lv 2)), (5, cFl 12 13 (ch 3) (cp 3) (sh 3) (sp 3) (ha 3) (lv 3))] := by
  refine mj_ev (lv := [(0, .ref 50), (1, .int (nI 3)), (2, .int y)]) (by decide +kernel) (Nat.le_of_ble_eq_true rfl) rfl (fun X h => ?_)
  refine mj_blk h.1 b_Sw_streamAt_0 rfl trivial ?_
  refine mj_callV h zGood (ev_Ft_at_3 l D cA _ _ _ _ _ _ _) v_Ft_at l_Sw_streamAt_5 d_Sw_streamAt_5 rfl ⟨by decide, by decide⟩ ⟨by decide, by decide⟩ [(0, 0), (1, 1), (2, 2), (3, 3), (4, 4), (5, 5), (6, 6), (7, 7), (8, 8), (9, 9), (10, 10), (11, 11), (12, 12), (13, 13)] rfl rfl rfl rfl rfl rfl (Nat.le_of_ble_eq_true rfl) ?_
  rintro _ _ ⟨rfl, rfl⟩
  rw [show (if lv 3 = true then Value.ref 5 else Value.null) = Value.ref 5 from if_pos hl]
  refine mj_k rfl rfl ?_
  refine mj_blk h.1 b_Sw_streamAt_8 rfl trivial ?_
  refine mj_ifnonnull_r h.1 d_Sw_streamAt_10 (tgt := 17) (by decide) ?_
  refine mj_blk h.1 b_Sw_streamAt_17 rfl trivial ?_
  refine mj_callV h zGood (ev_Fl_streamOf l D cA _ _ _ _ _ _ y) v_Fl_streamOf l_Sw_streamAt_19 d_Sw_streamAt_19 rfl ⟨by decide, by decide⟩ ⟨by decide, by decide⟩ [(0, 5), (1, 12), (2, 13)] rfl rfl rfl rfl rfl rfl (Nat.le_of_ble_eq_true rfl) ?_
  rintro _ _ ⟨rfl, rfl⟩
  rw [if_neg h0, if_neg h1]
  refine mj_k rfl rfl ?_
  first | exact mj_aret h rfl d_Sw_streamAt_22 (by decide) (by decide) ⟨rfl, rfl⟩ | exact mj_aretN h rfl d_Sw_streamAt_22 (by decide) (by decide) ⟨rfl, rfl⟩
set_option maxRecDepth 100000 in
set_option maxHeartbeats 4000000 in
theorem ev_Sw_streamAt_3_n (hl : ¬ lv 3 = true) (y : Int32) : E0_Sw_streamAt l D cA [.ref 50, .int (nI 3), .int y] [(50, cSw st rc), (0, .inr (2, [.ref 1, .int ph])), (1, .inl (3, 4, .inr (.inr [some 2, some 3, some 4, some 5]))), (2, cFl 6 7 (ch 0) (cp 0) (sh 0) (sp 0) (ha 0) (lv 0)), (3, cFl 8 9 (ch 1) (cp 1) (sh 1) (sp 1) (ha 1) (lv 1)), (4, cFl 10 11 (ch 2) (cp 2) (sh 2) (sp 2) (ha 2) (lv 2)), (5, cFl 12 13 (ch 3) (cp 3) (sh 3) (sp 3) (ha 3) (lv 3))] (some .null) [(50, cSw st rc), (0, .inr (2, [.ref 1, .int ph])), (1, .inl (3, 4, .inr (.inr [some 2, some 3, some 4, some 5]))), (2, cFl 6 7 (ch 0) (cp 0) (sh 0) (sp 0) (ha 0) (lv 0)), (3, cFl 8 9 (ch 1) (cp 1) (sh 1) (sp 1) (ha 1) (lv 1)), (4, cFl 10 11 (ch 2) (cp 2) (sh 2) (sp 2) (ha 2) (lv 2)), (5, cFl 12 13 (ch 3) (cp 3) (sh 3) (sp 3) (ha 3) (lv 3))] := by
  refine mj_ev (lv := [(0, .ref 50), (1, .int (nI 3)), (2, .int y)]) (by decide +kernel) (Nat.le_of_ble_eq_true rfl) rfl (fun X h => ?_)
  refine mj_blk h.1 b_Sw_streamAt_0 rfl trivial ?_
  refine mj_callV h zGood (ev_Ft_at_3 l D cA _ _ _ _ _ _ _) v_Ft_at l_Sw_streamAt_5 d_Sw_streamAt_5 rfl ⟨by decide, by decide⟩ ⟨by decide, by decide⟩ [(0, 0), (1, 1), (2, 2), (3, 3), (4, 4), (5, 5), (6, 6), (7, 7), (8, 8), (9, 9), (10, 10), (11, 11), (12, 12), (13, 13)] rfl rfl rfl rfl rfl rfl (Nat.le_of_ble_eq_true rfl) ?_
  rintro _ _ ⟨rfl, rfl⟩
  rw [show (if lv 3 = true then Value.ref 5 else Value.null) = Value.null from if_neg hl]
  refine mj_k rfl rfl ?_
  refine mj_blk h.1 b_Sw_streamAt_8 rfl trivial ?_
  refine mj_ifnonnull_n h.1 d_Sw_streamAt_10 ?_
  refine mj_blk h.1 b_Sw_streamAt_13 rfl trivial ?_
  first | exact mj_aret h rfl d_Sw_streamAt_22 (by decide) (by decide) ⟨rfl, rfl⟩ | exact mj_aretN h rfl d_Sw_streamAt_22 (by decide) (by decide) ⟨rfl, rfl⟩
set_option maxRecDepth 100000 in
set_option maxHeartbeats 4000000 in
theorem ev_Sw_streamAt_N (k : Int32) (hk : k < 0 ∨ 4 ≤ k) (y : Int32) : E0_Sw_streamAt l D cA [.ref 50, .int k, .int y] [(50, cSw st rc), (0, .inr (2, [.ref 1, .int ph])), (1, .inl (3, 4, .inr (.inr [some 2, some 3, some 4, some 5]))), (2, cFl 6 7 (ch 0) (cp 0) (sh 0) (sp 0) (ha 0) (lv 0)), (3, cFl 8 9 (ch 1) (cp 1) (sh 1) (sp 1) (ha 1) (lv 1)), (4, cFl 10 11 (ch 2) (cp 2) (sh 2) (sp 2) (ha 2) (lv 2)), (5, cFl 12 13 (ch 3) (cp 3) (sh 3) (sp 3) (ha 3) (lv 3))] (some .null) [(50, cSw st rc), (0, .inr (2, [.ref 1, .int ph])), (1, .inl (3, 4, .inr (.inr [some 2, some 3, some 4, some 5]))), (2, cFl 6 7 (ch 0) (cp 0) (sh 0) (sp 0) (ha 0) (lv 0)), (3, cFl 8 9 (ch 1) (cp 1) (sh 1) (sp 1) (ha 1) (lv 1)), (4, cFl 10 11 (ch 2) (cp 2) (sh 2) (sp 2) (ha 2) (lv 2)), (5, cFl 12 13 (ch 3) (cp 3) (sh 3) (sp 3) (ha 3) (lv 3))] := by
  refine mj_ev (lv := [(0, .ref 50), (1, .int k), (2, .int y)]) (by decide +kernel) (Nat.le_of_ble_eq_true rfl) rfl (fun X h => ?_)
  refine mj_blk h.1 b_Sw_streamAt_0 rfl trivial ?_
  refine mj_callV h zGood (ev_Ft_at_N l D cA _ _ _ _ _ _ _ k hk) v_Ft_at l_Sw_streamAt_5 d_Sw_streamAt_5 rfl ⟨by decide, by decide⟩ ⟨by decide, by decide⟩ [(0, 0), (1, 1), (2, 2), (3, 3), (4, 4), (5, 5), (6, 6), (7, 7), (8, 8), (9, 9), (10, 10), (11, 11), (12, 12), (13, 13)] rfl rfl rfl rfl rfl rfl (Nat.le_of_ble_eq_true rfl) ?_
  rintro _ _ ⟨rfl, rfl⟩
  refine mj_k rfl rfl ?_
  refine mj_blk h.1 b_Sw_streamAt_8 rfl trivial ?_
  refine mj_ifnonnull_n h.1 d_Sw_streamAt_10 ?_
  refine mj_blk h.1 b_Sw_streamAt_13 rfl trivial ?_
  first | exact mj_aret h rfl d_Sw_streamAt_22 (by decide) (by decide) ⟨rfl, rfl⟩ | exact mj_aretN h rfl d_Sw_streamAt_22 (by decide) (by decide) ⟨rfl, rfl⟩
/-- no stream is asked for -/
def qNo (lv : Nat → Bool) (k y : Int32) : Prop := (k < 0 ∨ 4 ≤ k) ∨ (∃ j : Nat, j < 4 ∧ k = nI j ∧ (¬ lv j = true ∨ (¬ y = 0 ∧ ¬ y = 1)))
set_option maxRecDepth 100000 in
set_option maxHeartbeats 4000000 in
theorem ev_Sw_streamAt_no (k y : Int32) (h : qNo lv k y) : E0_Sw_streamAt l D cA [.ref 50, .int k, .int y] [(50, cSw st rc), (0, .inr (2, [.ref 1, .int ph])), (1, .inl (3, 4, .inr (.inr [some 2, some 3, some 4, some 5]))), (2, cFl 6 7 (ch 0) (cp 0) (sh 0) (sp 0) (ha 0) (lv 0)), (3, cFl 8 9 (ch 1) (cp 1) (sh 1) (sp 1) (ha 1) (lv 1)), (4, cFl 10 11 (ch 2) (cp 2) (sh 2) (sp 2) (ha 2) (lv 2)), (5, cFl 12 13 (ch 3) (cp 3) (sh 3) (sp 3) (ha 3) (lv 3))] (some .null) [(50, cSw st rc), (0, .inr (2, [.ref 1, .int ph])), (1, .inl (3, 4, .inr (.inr [some 2, some 3, some 4, some 5]))), (2, cFl 6 7 (ch 0) (cp 0) (sh 0) (sp 0) (ha 0) (lv 0)), (3, cFl 8 9 (ch 1) (cp 1) (sh 1) (sp 1) (ha 1) (lv 1)), (4, cFl 10 11 (ch 2) (cp 2) (sh 2) (sp 2) (ha 2) (lv 2)), (5, cFl 12 13 (ch 3) (cp 3) (sh 3) (sp 3) (ha 3) (lv 3))] := by
  rcases h with h | ⟨j, hj, rfl, h⟩
  · exact ev_Sw_streamAt_N l D cA st rc ph ch cp sh sp ha lv k h y
  · by_cases hl : lv j = true
    · rcases h with h | ⟨h0, h1⟩
      · exact absurd hl h
      · rcases (show j = 0 ∨ j = 1 ∨ j = 2 ∨ j = 3 by omega) with rfl | rfl | rfl | rfl
        · exact ev_Sw_streamAt_0_w l D cA st rc ph ch cp sh sp ha lv hl y h0 h1
        · exact ev_Sw_streamAt_1_w l D cA st rc ph ch cp sh sp ha lv hl y h0 h1
        · exact ev_Sw_streamAt_2_w l D cA st rc ph ch cp sh sp ha lv hl y h0 h1
        · exact ev_Sw_streamAt_3_w l D cA st rc ph ch cp sh sp ha lv hl y h0 h1
    · rcases (show j = 0 ∨ j = 1 ∨ j = 2 ∨ j = 3 by omega) with rfl | rfl | rfl | rfl
      · exact ev_Sw_streamAt_0_n l D cA st rc ph ch cp sh sp ha lv hl y
      · exact ev_Sw_streamAt_1_n l D cA st rc ph ch cp sh sp ha lv hl y
      · exact ev_Sw_streamAt_2_n l D cA st rc ph ch cp sh sp ha lv hl y
      · exact ev_Sw_streamAt_3_n l D cA st rc ph ch cp sh sp ha lv hl y

set_option maxRecDepth 100000 in
set_option maxHeartbeats 4000000 in
theorem ev_Sw_stream_no (k y : Int32) (hq : qNo lv k y) (w : Int32) : E0_Sw_stream l D cA [.ref 50, .int k, .int y, .int w] [(50, cSw st rc), (0, .inr (2, [.ref 1, .int ph])), (1, .inl (3, 4, .inr (.inr [some 2, some 3, some 4, some 5]))), (2, cFl 6 7 (ch 0) (cp 0) (sh 0) (sp 0) (ha 0) (lv 0)), (3, cFl 8 9 (ch 1) (cp 1) (sh 1) (sp 1) (ha 1) (lv 1)), (4, cFl 10 11 (ch 2) (cp 2) (sh 2) (sp 2) (ha 2) (lv 2)), (5, cFl 12 13 (ch 3) (cp 3) (sh 3) (sp 3) (ha 3) (lv 3))] (some (.int (-1))) [(50, cSw st rc), (0, .inr (2, [.ref 1, .int ph])), (1, .inl (3, 4, .inr (.inr [some 2, some 3, some 4, some 5]))), (2, cFl 6 7 (ch 0) (cp 0) (sh 0) (sp 0) (ha 0) (lv 0)), (3, cFl 8 9 (ch 1) (cp 1) (sh 1) (sp 1) (ha 1) (lv 1)), (4, cFl 10 11 (ch 2) (cp 2) (sh 2) (sp 2) (ha 2) (lv 2)), (5, cFl 12 13 (ch 3) (cp 3) (sh 3) (sp 3) (ha 3) (lv 3))] := by
  refine mj_ev (lv := [(0, .ref 50), (1, .int k), (2, .int y), (3, .int w)]) (by decide +kernel) (Nat.le_of_ble_eq_true rfl) rfl (fun X h => ?_)
  refine mj_blk h.1 b_Sw_stream_0 rfl trivial ?_
  refine mj_callV h zGood (ev_Sw_streamAt_no l D cA _ _ _ _ _ _ _ _ _ k y hq) v_Sw_streamAt l_Sw_stream_3 d_Sw_stream_3 rfl ⟨by decide, by decide⟩ ⟨by decide, by decide⟩ [(50, 50), (51, 51), (40, 40), (53, 53), (60, 60), (70, 70), (0, 0), (1, 1), (2, 2), (3, 3), (4, 4), (5, 5), (6, 6), (7, 7), (8, 8), (9, 9), (10, 10), (11, 11), (12, 12), (13, 13)] rfl rfl rfl rfl rfl rfl (Nat.le_of_ble_eq_true rfl) ?_
  rintro _ _ ⟨rfl, rfl⟩
  refine mj_k rfl rfl ?_
  refine mj_blk h.1 b_Sw_stream_6 rfl trivial ?_
  refine mj_ifnonnull_n h.1 d_Sw_stream_10 ?_
  refine mj_blk h.1 b_Sw_stream_13 rfl trivial ?_
  exact mj_iret h rfl d_Sw_stream_14 (by decide) (by decide) ⟨rfl, rfl⟩
set_option maxRecDepth 100000 in
set_option maxHeartbeats 4000000 in
theorem ev_Sw_text_no (k y : Int32) (hq : qNo lv k y) (w : Int32) : E0_Sw_text l D cA [.ref 50, .int k, .int y, .int w] [(50, cSw st rc), (0, .inr (2, [.ref 1, .int ph])), (1, .inl (3, 4, .inr (.inr [some 2, some 3, some 4, some 5]))), (2, cFl 6 7 (ch 0) (cp 0) (sh 0) (sp 0) (ha 0) (lv 0)), (3, cFl 8 9 (ch 1) (cp 1) (sh 1) (sp 1) (ha 1) (lv 1)), (4, cFl 10 11 (ch 2) (cp 2) (sh 2) (sp 2) (ha 2) (lv 2)), (5, cFl 12 13 (ch 3) (cp 3) (sh 3) (sp 3) (ha 3) (lv 3))] (some (.int (-1))) [(50, cSw st rc), (0, .inr (2, [.ref 1, .int ph])), (1, .inl (3, 4, .inr (.inr [some 2, some 3, some 4, some 5]))), (2, cFl 6 7 (ch 0) (cp 0) (sh 0) (sp 0) (ha 0) (lv 0)), (3, cFl 8 9 (ch 1) (cp 1) (sh 1) (sp 1) (ha 1) (lv 1)), (4, cFl 10 11 (ch 2) (cp 2) (sh 2) (sp 2) (ha 2) (lv 2)), (5, cFl 12 13 (ch 3) (cp 3) (sh 3) (sp 3) (ha 3) (lv 3))] := by
  refine mj_ev (lv := [(0, .ref 50), (1, .int k), (2, .int y), (3, .int w)]) (by decide +kernel) (Nat.le_of_ble_eq_true rfl) rfl (fun X h => ?_)
  refine mj_blk h.1 b_Sw_text_0 rfl trivial ?_
  refine mj_callV h zGood (ev_Sw_streamAt_no l D cA _ _ _ _ _ _ _ _ _ k y hq) v_Sw_streamAt l_Sw_text_3 d_Sw_text_3 rfl ⟨by decide, by decide⟩ ⟨by decide, by decide⟩ [(50, 50), (51, 51), (40, 40), (53, 53), (60, 60), (70, 70), (0, 0), (1, 1), (2, 2), (3, 3), (4, 4), (5, 5), (6, 6), (7, 7), (8, 8), (9, 9), (10, 10), (11, 11), (12, 12), (13, 13)] rfl rfl rfl rfl rfl rfl (Nat.le_of_ble_eq_true rfl) ?_
  rintro _ _ ⟨rfl, rfl⟩
  refine mj_k rfl rfl ?_
  refine mj_blk h.1 b_Sw_text_6 rfl trivial ?_
  refine mj_ifnonnull_n h.1 d_Sw_text_10 ?_
  refine mj_blk h.1 b_Sw_text_13 rfl trivial ?_
  exact mj_iret h rfl d_Sw_text_23 (by decide) (by decide) ⟨rfl, rfl⟩
set_option maxRecDepth 100000 in
set_option maxHeartbeats 4000000 in
theorem ev_Sw_stream_0_0 (hl : lv 0 = true) (w : Int32) : E0_Sw_stream l D cA [.ref 50, .int (nI 0), .int 0, .int w] [(50, cSw st rc), (0, .inr (2, [.ref 1, .int ph])), (1, .inl (3, 4, .inr (.inr [some 2, some 3, some 4, some 5]))), (2, cFl 6 7 (ch 0) (cp 0) (sh 0) (sp 0) (ha 0) (lv 0)), (3, cFl 8 9 (ch 1) (cp 1) (sh 1) (sp 1) (ha 1) (lv 1)), (4, cFl 10 11 (ch 2) (cp 2) (sh 2) (sp 2) (ha 2) (lv 2)), (5, cFl 12 13 (ch 3) (cp 3) (sh 3) (sp 3) (ha 3) (lv 3)), (6, cSm 14 15 (ts 0) (hs 0) (nx 0) (rr 0) (bg 0) (en 0)), (14, cIs 80 (tx 0)), (15, cIs 32 (hd 0)), (7, cSm 16 17 (ts 1) (hs 1) (nx 1) (rr 1) (bg 1) (en 1)), (16, cIs 80 (tx 1)), (17, cIs 32 (hd 1)), (8, cSm 18 19 (ts 2) (hs 2) (nx 2) (rr 2) (bg 2) (en 2)), (18, cIs 80 (tx 2)), (19, cIs 32 (hd 2)), (9, cSm 20 21 (ts 3) (hs 3) (nx 3) (rr 3) (bg 3) (en 3)), (20, cIs 80 (tx 3)), (21, cIs 32 (hd 3)), (10, cSm 22 23 (ts 4) (hs 4) (nx 4) (rr 4) (bg 4) (en 4)), (22, cIs 80 (tx 4)), (23, cIs 32 (hd 4)), (11, cSm 24 25 (ts 5) (hs 5) (nx 5) (rr 5) (bg 5) (en 5)), (24, cIs 80 (tx 5)), (25, cIs 32 (hd 5)), (12, cSm 26 27 (ts 6) (hs 6) (nx 6) (rr 6) (bg 6) (en 6)), (26, cIs 80 (tx 6)), (27, cIs 32 (hd 6)), (13, cSm 28 29 (ts 7) (hs 7) (nx 7) (rr 7) (bg 7) (en 7)), (28, cIs 80 (tx 7)), (29, cIs 32 (hd 7))] (some (.int (qStr ts hs nx en 0 w))) [(50, cSw st rc), (0, .inr (2, [.ref 1, .int ph])), (1, .inl (3, 4, .inr (.inr [some 2, some 3, some 4, some 5]))), (2, cFl 6 7 (ch 0) (cp 0) (sh 0) (sp 0) (ha 0) (lv 0)), (3, cFl 8 9 (ch 1) (cp 1) (sh 1) (sp 1) (ha 1) (lv 1)), (4, cFl 10 11 (ch 2) (cp 2) (sh 2) (sp 2) (ha 2) (lv 2)), (5, cFl 12 13 (ch 3) (cp 3) (sh 3) (sp 3) (ha 3) (lv 3)), (6, cSm 14 15 (ts 0) (hs 0) (nx 0) (rr 0) (bg 0) (en 0)), (14, cIs 80 (tx 0)), (15, cIs 32 (hd 0)), (7, cSm 16 17 (ts 1) (hs 1) (nx 1) (rr 1) (bg 1) (en 1)), (16, cIs 80 (tx 1)), (17, cIs 32 (hd 1)), (8, cSm 18 19 (ts 2) (hs 2) (nx 2) (rr 2) (bg 2) (en 2)), (18, cIs 80 (tx 2)), (19, cIs 32 (hd 2)), (9, cSm 20 21 (ts 3) (hs 3) (nx 3) (rr 3) (bg 3) (en 3)), (20, cIs 80 (tx 3)), (21, cIs 32 (hd 3)), (10, cSm 22 23 (ts 4) (hs 4) (nx 4) (rr 4) (bg 4) (en 4)), (22, cIs 80 (tx 4)), (23, cIs 32 (hd 4)), (11, cSm 24 25 (ts 5) (hs 5) (nx 5) (rr 5) (bg 5) (en 5)), (24, cIs 80 (tx 5)), (25, cIs 32 (hd 5)), (12, cSm 26 27 (ts 6) (hs 6) (nx 6) (rr 6) (bg 6) (en 6)), (26, cIs 80 (tx 6)), (27, cIs 32 (hd 6)), (13, cSm 28 29 (ts 7) (hs 7) (nx 7) (rr 7) (bg 7) (en 7)), (28, cIs 80 (tx 7)), (29, cIs 32 (hd 7))] := by
  refine mj_ev (lv := [(0, .ref 50), (1, .int (nI 0)), (2, .int 0), (3, .int w)]) (by decide +kernel) (Nat.le_of_ble_eq_true rfl) rfl (fun X h => ?_)
  refine mj_blk h.1 b_Sw_stream_0 rfl trivial ?_
  refine mj_callV h zGood (ev_Sw_streamAt_0_0 l D cA _ _ _ _ _ _ _ _ _ hl) v_Sw_streamAt l_Sw_stream_3 d_Sw_stream_3 rfl ⟨by decide, by decide⟩ ⟨by decide, by decide⟩ [(50, 50), (51, 51), (40, 40), (53, 53), (60, 60), (70, 70), (0, 0), (1, 1), (2, 2), (3, 3), (4, 4), (5, 5), (6, 6), (7, 7), (8, 8), (9, 9), (10, 10), (11, 11), (12, 12), (13, 13)] rfl rfl rfl rfl rfl rfl (Nat.le_of_ble_eq_true rfl) ?_
  rintro _ _ ⟨rfl, rfl⟩
  refine mj_k rfl rfl ?_
  refine mj_blk h.1 b_Sw_stream_6 rfl trivial ?_
  refine mj_ifnonnull_r h.1 d_Sw_stream_10 (tgt := 15) (by decide) ?_
  refine mj_blk h.1 b_Sw_stream_15 rfl trivial ?_
  rcases mj_sw3 w with rfl | rfl | rfl | rfl | hsw
  · refine mj_tswIn h.1 d_Sw_stream_16 (by decide) (by decide) (off := 32) (by decide) (tgt := 48) (by decide) ?_
    refine mj_blk h.1 b_Sw_stream_48 rfl trivial ?_
    refine mj_callV h zGood (ev_Sm_size l D cA _ _ _ _ _ _ _ _) v_Sm_size l_Sw_stream_50 d_Sw_stream_50 rfl ⟨by decide, by decide⟩ ⟨by decide, by decide⟩ [(0, 6), (1, 14), (2, 15)] rfl rfl rfl rfl rfl rfl (Nat.le_of_ble_eq_true rfl) ?_
    rintro _ _ ⟨rfl, rfl⟩
    refine mj_k rfl rfl ?_
    exact mj_iret h rfl d_Sw_stream_53 (by decide) (by decide) ⟨rfl, rfl⟩
  · refine mj_tswIn h.1 d_Sw_stream_16 (by decide) (by decide) (off := 38) (by decide) (tgt := 54) (by decide) ?_
    refine mj_blk h.1 b_Sw_stream_54 rfl trivial ?_
    refine mj_callV h zGood (ev_Sm_next l D cA _ _ _ _ _ _ _ _) v_Sm_next l_Sw_stream_56 d_Sw_stream_56 rfl ⟨by decide, by decide⟩ ⟨by decide, by decide⟩ [(0, 6), (1, 14), (2, 15)] rfl rfl rfl rfl rfl rfl (Nat.le_of_ble_eq_true rfl) ?_
    rintro _ _ ⟨rfl, rfl⟩
    refine mj_k rfl rfl ?_
    exact mj_iret h rfl d_Sw_stream_59 (by decide) (by decide) ⟨rfl, rfl⟩
  · refine mj_tswIn h.1 d_Sw_stream_16 (by decide) (by decide) (off := 44) (by decide) (tgt := 60) (by decide) ?_
    refine mj_blk h.1 b_Sw_stream_60 rfl trivial ?_
    refine mj_callV h zGood (ev_Sm_heldCount l D cA _ _ _ _ _ _ _ _) v_Sm_heldCount l_Sw_stream_62 d_Sw_stream_62 rfl ⟨by decide, by decide⟩ ⟨by decide, by decide⟩ [(0, 6), (1, 14), (2, 15)] rfl rfl rfl rfl rfl rfl (Nat.le_of_ble_eq_true rfl) ?_
    rintro _ _ ⟨rfl, rfl⟩
    refine mj_k rfl rfl ?_
    exact mj_iret h rfl d_Sw_stream_65 (by decide) (by decide) ⟨rfl, rfl⟩
  · refine mj_tswIn h.1 d_Sw_stream_16 (by decide) (by decide) (off := 50) (by decide) (tgt := 66) (by decide) ?_
    refine mj_blk h.1 b_Sw_stream_66 rfl trivial ?_
    refine mj_callV h zGood (ev_Sm_hasEnded l D cA _ _ _ _ _ _ _ _) v_Sm_hasEnded l_Sw_stream_68 d_Sw_stream_68 rfl ⟨by decide, by decide⟩ ⟨by decide, by decide⟩ [(0, 6), (1, 14), (2, 15)] rfl rfl rfl rfl rfl rfl (Nat.le_of_ble_eq_true rfl) ?_
    rintro _ _ ⟨rfl, rfl⟩
    refine mj_k rfl rfl ?_
    first | refine mj_ifeqB h.1 (tgt := 78) d_Sw_stream_71 (by decide) (fun h1 => ?_) (fun h1 => ?_) | refine mj_ifeq h.1 (tgt := 78) d_Sw_stream_71 (by decide) (fun h1 => ?_) (fun h1 => ?_)
    · refine mj_blk h.1 b_Sw_stream_78 rfl trivial ?_
      exact mj_iret h rfl d_Sw_stream_79 (by decide) (by decide) ⟨by show some (Value.int _) = some (Value.int (if en 0 = true then 1 else 0)); rw [if_neg h1], rfl⟩
    · refine mj_blk h.1 b_Sw_stream_74 rfl trivial ?_
      exact mj_iret h rfl d_Sw_stream_79 (by decide) (by decide) ⟨by show some (Value.int _) = some (Value.int (if en 0 = true then 1 else 0)); rw [if_pos h1], rfl⟩
  · refine mj_tswOut h.1 d_Sw_stream_16 hsw (tgt := 80) (by decide) ?_
    refine mj_blk h.1 b_Sw_stream_80 rfl trivial ?_
    exact mj_iret h rfl d_Sw_stream_81 (by decide) (by decide) ⟨by unfold qStr; rw [if_neg (show ¬ w = 0 from mj_out3 hsw 0 (by decide)), if_neg (show ¬ w = 1 from mj_out3 hsw 1 (by decide)), if_neg (show ¬ w = 2 from mj_out3 hsw 2 (by decide)), if_neg (show ¬ w = 3 from mj_out3 hsw 3 (by decide))], rfl⟩
set_option maxRecDepth 100000 in
set_option maxHeartbeats 4000000 in
theorem ev_Sw_text_0_0 (hl : lv 0 = true) (ht : ts 0 ≤ 80) (k : Int32) : E0_Sw_text l D cA [.ref 50, .int (nI 0), .int 0, .int k] [(50, cSw st rc), (0, .inr (2, [.ref 1, .int ph])), (1, .inl (3, 4, .inr (.inr [some 2, some 3, some 4, some 5]))), (2, cFl 6 7 (ch 0) (cp 0) (sh 0) (sp 0) (ha 0) (lv 0)), (3, cFl 8 9 (ch 1) (cp 1) (sh 1) (sp 1) (ha 1) (lv 1)), (4, cFl 10 11 (ch 2) (cp 2) (sh 2) (sp 2) (ha 2) (lv 2)), (5, cFl 12 13 (ch 3) (cp 3) (sh 3) (sp 3) (ha 3) (lv 3)), (6, cSm 14 15 (ts 0) (hs 0) (nx 0) (rr 0) (bg 0) (en 0)), (14, cIs 80 (tx 0)), (15, cIs 32 (hd 0)), (7, cSm 16 17 (ts 1) (hs 1) (nx 1) (rr 1) (bg 1) (en 1)), (16, cIs 80 (tx 1)), (17, cIs 32 (hd 1)), (8, cSm 18 19 (ts 2) (hs 2) (nx 2) (rr 2) (bg 2) (en 2)), (18, cIs 80 (tx 2)), (19, cIs 32 (hd 2)), (9, cSm 20 21 (ts 3) (hs 3) (nx 3) (rr 3) (bg 3) (en 3)), (20, cIs 80 (tx 3)), (21, cIs 32 (hd 3)), (10, cSm 22 23 (ts 4) (hs 4) (nx 4) (rr 4) (bg 4) (en 4)), (22, cIs 80 (tx 4)), (23, cIs 32 (hd 4)), (11, cSm 24 25 (ts 5) (hs 5) (nx 5) (rr 5) (bg 5) (en 5)), (24, cIs 80 (tx 5)), (25, cIs 32 (hd 5)), (12, cSm 26 27 (ts 6) (hs 6) (nx 6) (rr 6) (bg 6) (en 6)), (26, cIs 80 (tx 6)), (27, cIs 32 (hd 6)), (13, cSm 28 29 (ts 7) (hs 7) (nx 7) (rr 7) (bg 7) (en 7)), (28, cIs 80 (tx 7)), (29, cIs 32 (hd 7))] (some (.int (sAt (tx 0) (ts 0) k))) [(50, cSw st rc), (0, .inr (2, [.ref 1, .int ph])), (1, .inl (3, 4, .inr (.inr [some 2, some 3, some 4, some 5]))), (2, cFl 6 7 (ch 0) (cp 0) (sh 0) (sp 0) (ha 0) (lv 0)), (3, cFl 8 9 (ch 1) (cp 1) (sh 1) (sp 1) (ha 1) (lv 1)), (4, cFl 10 11 (ch 2) (cp 2) (sh 2) (sp 2) (ha 2) (lv 2)), (5, cFl 12 13 (ch 3) (cp 3) (sh 3) (sp 3) (ha 3) (lv 3)), (6, cSm 14 15 (ts 0) (hs 0) (nx 0) (rr 0) (bg 0) (en 0)), (14, cIs 80 (tx 0)), (15, cIs 32 (hd 0)), (7, cSm 16 17 (ts 1) (hs 1) (nx 1) (rr 1) (bg 1) (en 1)), (16, cIs 80 (tx 1)), (17, cIs 32 (hd 1)), (8, cSm 18 19 (ts 2) (hs 2) (nx 2) (rr 2) (bg 2) (en 2)), (18, cIs 80 (tx 2)), (19, cIs 32 (hd 2)), (9, cSm 20 21 (ts 3) (hs 3) (nx 3) (rr 3) (bg 3) (en 3)), (20, cIs 80 (tx 3)), (21, cIs 32 (hd 3)), (10, cSm 22 23 (ts 4) (hs 4) (nx 4) (rr 4) (bg 4) (en 4)), (22, cIs 80 (tx 4)), (23, cIs 32 (hd 4)), (11, cSm 24 25 (ts 5) (hs 5) (nx 5) (rr 5) (bg 5) (en 5)), (24, cIs 80 (tx 5)), (25, cIs 32 (hd 5)), (12, cSm 26 27 (ts 6) (hs 6) (nx 6) (rr 6) (bg 6) (en 6)), (26, cIs 80 (tx 6)), (27, cIs 32 (hd 6)), (13, cSm 28 29 (ts 7) (hs 7) (nx 7) (rr 7) (bg 7) (en 7)), (28, cIs 80 (tx 7)), (29, cIs 32 (hd 7))] := by
  refine mj_ev (lv := [(0, .ref 50), (1, .int (nI 0)), (2, .int 0), (3, .int k)]) (by decide +kernel) (Nat.le_of_ble_eq_true rfl) rfl (fun X h => ?_)
  refine mj_blk h.1 b_Sw_text_0 rfl trivial ?_
  refine mj_callV h zGood (ev_Sw_streamAt_0_0 l D cA _ _ _ _ _ _ _ _ _ hl) v_Sw_streamAt l_Sw_text_3 d_Sw_text_3 rfl ⟨by decide, by decide⟩ ⟨by decide, by decide⟩ [(50, 50), (51, 51), (40, 40), (53, 53), (60, 60), (70, 70), (0, 0), (1, 1), (2, 2), (3, 3), (4, 4), (5, 5), (6, 6), (7, 7), (8, 8), (9, 9), (10, 10), (11, 11), (12, 12), (13, 13)] rfl rfl rfl rfl rfl rfl (Nat.le_of_ble_eq_true rfl) ?_
  rintro _ _ ⟨rfl, rfl⟩
  refine mj_k rfl rfl ?_
  refine mj_blk h.1 b_Sw_text_6 rfl trivial ?_
  refine mj_ifnonnull_r h.1 d_Sw_text_10 (tgt := 17) (by decide) ?_
  refine mj_blk h.1 b_Sw_text_17 rfl trivial ?_
  refine mj_callV h zGood (ev_Sm_byteAt l D cA _ _ _ _ _ _ _ _ ht _) v_Sm_byteAt l_Sw_text_20 d_Sw_text_20 rfl ⟨by decide, by decide⟩ ⟨by decide, by decide⟩ [(0, 6), (1, 14), (2, 15)] rfl rfl rfl rfl rfl rfl (Nat.le_of_ble_eq_true rfl) ?_
  rintro _ _ ⟨rfl, rfl⟩
  refine mj_k rfl rfl ?_
  exact mj_iret h rfl d_Sw_text_23 (by decide) (by decide) ⟨rfl, rfl⟩
set_option maxRecDepth 100000 in
set_option maxHeartbeats 4000000 in
theorem ev_Sw_stream_0_1 (hl : lv 0 = true) (w : Int32) : E0_Sw_stream l D cA [.ref 50, .int (nI 0), .int 1, .int w] [(50, cSw st rc), (0, .inr (2, [.ref 1, .int ph])), (1, .inl (3, 4, .inr (.inr [some 2, some 3, some 4, some 5]))), (2, cFl 6 7 (ch 0) (cp 0) (sh 0) (sp 0) (ha 0) (lv 0)), (3, cFl 8 9 (ch 1) (cp 1) (sh 1) (sp 1) (ha 1) (lv 1)), (4, cFl 10 11 (ch 2) (cp 2) (sh 2) (sp 2) (ha 2) (lv 2)), (5, cFl 12 13 (ch 3) (cp 3) (sh 3) (sp 3) (ha 3) (lv 3)), (6, cSm 14 15 (ts 0) (hs 0) (nx 0) (rr 0) (bg 0) (en 0)), (14, cIs 80 (tx 0)), (15, cIs 32 (hd 0)), (7, cSm 16 17 (ts 1) (hs 1) (nx 1) (rr 1) (bg 1) (en 1)), (16, cIs 80 (tx 1)), (17, cIs 32 (hd 1)), (8, cSm 18 19 (ts 2) (hs 2) (nx 2) (rr 2) (bg 2) (en 2)), (18, cIs 80 (tx 2)), (19, cIs 32 (hd 2)), (9, cSm 20 21 (ts 3) (hs 3) (nx 3) (rr 3) (bg 3) (en 3)), (20, cIs 80 (tx 3)), (21, cIs 32 (hd 3)), (10, cSm 22 23 (ts 4) (hs 4) (nx 4) (rr 4) (bg 4) (en 4)), (22, cIs 80 (tx 4)), (23, cIs 32 (hd 4)), (11, cSm 24 25 (ts 5) (hs 5) (nx 5) (rr 5) (bg 5) (en 5)), (24, cIs 80 (tx 5)), (25, cIs 32 (hd 5)), (12, cSm 26 27 (ts 6) (hs 6) (nx 6) (rr 6) (bg 6) (en 6)), (26, cIs 80 (tx 6)), (27, cIs 32 (hd 6)), (13, cSm 28 29 (ts 7) (hs 7) (nx 7) (rr 7) (bg 7) (en 7)), (28, cIs 80 (tx 7)), (29, cIs 32 (hd 7))] (some (.int (qStr ts hs nx en 1 w))) [(50, cSw st rc), (0, .inr (2, [.ref 1, .int ph])), (1, .inl (3, 4, .inr (.inr [some 2, some 3, some 4, some 5]))), (2, cFl 6 7 (ch 0) (cp 0) (sh 0) (sp 0) (ha 0) (lv 0)), (3, cFl 8 9 (ch 1) (cp 1) (sh 1) (sp 1) (ha 1) (lv 1)), (4, cFl 10 11 (ch 2) (cp 2) (sh 2) (sp 2) (ha 2) (lv 2)), (5, cFl 12 13 (ch 3) (cp 3) (sh 3) (sp 3) (ha 3) (lv 3)), (6, cSm 14 15 (ts 0) (hs 0) (nx 0) (rr 0) (bg 0) (en 0)), (14, cIs 80 (tx 0)), (15, cIs 32 (hd 0)), (7, cSm 16 17 (ts 1) (hs 1) (nx 1) (rr 1) (bg 1) (en 1)), (16, cIs 80 (tx 1)), (17, cIs 32 (hd 1)), (8, cSm 18 19 (ts 2) (hs 2) (nx 2) (rr 2) (bg 2) (en 2)), (18, cIs 80 (tx 2)), (19, cIs 32 (hd 2)), (9, cSm 20 21 (ts 3) (hs 3) (nx 3) (rr 3) (bg 3) (en 3)), (20, cIs 80 (tx 3)), (21, cIs 32 (hd 3)), (10, cSm 22 23 (ts 4) (hs 4) (nx 4) (rr 4) (bg 4) (en 4)), (22, cIs 80 (tx 4)), (23, cIs 32 (hd 4)), (11, cSm 24 25 (ts 5) (hs 5) (nx 5) (rr 5) (bg 5) (en 5)), (24, cIs 80 (tx 5)), (25, cIs 32 (hd 5)), (12, cSm 26 27 (ts 6) (hs 6) (nx 6) (rr 6) (bg 6) (en 6)), (26, cIs 80 (tx 6)), (27, cIs 32 (hd 6)), (13, cSm 28 29 (ts 7) (hs 7) (nx 7) (rr 7) (bg 7) (en 7)), (28, cIs 80 (tx 7)), (29, cIs 32 (hd 7))] := by
  refine mj_ev (lv := [(0, .ref 50), (1, .int (nI 0)), (2, .int 1), (3, .int w)]) (by decide +kernel) (Nat.le_of_ble_eq_true rfl) rfl (fun X h => ?_)
  refine mj_blk h.1 b_Sw_stream_0 rfl trivial ?_
  refine mj_callV h zGood (ev_Sw_streamAt_0_1 l D cA _ _ _ _ _ _ _ _ _ hl) v_Sw_streamAt l_Sw_stream_3 d_Sw_stream_3 rfl ⟨by decide, by decide⟩ ⟨by decide, by decide⟩ [(50, 50), (51, 51), (40, 40), (53, 53), (60, 60), (70, 70), (0, 0), (1, 1), (2, 2), (3, 3), (4, 4), (5, 5), (6, 6), (7, 7), (8, 8), (9, 9), (10, 10), (11, 11), (12, 12), (13, 13)] rfl rfl rfl rfl rfl rfl (Nat.le_of_ble_eq_true rfl) ?_
  rintro _ _ ⟨rfl, rfl⟩
  refine mj_k rfl rfl ?_
  refine mj_blk h.1 b_Sw_stream_6 rfl trivial ?_
  refine mj_ifnonnull_r h.1 d_Sw_stream_10 (tgt := 15) (by decide) ?_
  refine mj_blk h.1 b_Sw_stream_15 rfl trivial ?_
  rcases mj_sw3 w with rfl | rfl | rfl | rfl | hsw
  · refine mj_tswIn h.1 d_Sw_stream_16 (by decide) (by decide) (off := 32) (by decide) (tgt := 48) (by decide) ?_
    refine mj_blk h.1 b_Sw_stream_48 rfl trivial ?_
    refine mj_callV h zGood (ev_Sm_size l D cA _ _ _ _ _ _ _ _) v_Sm_size l_Sw_stream_50 d_Sw_stream_50 rfl ⟨by decide, by decide⟩ ⟨by decide, by decide⟩ [(0, 7), (1, 16), (2, 17)] rfl rfl rfl rfl rfl rfl (Nat.le_of_ble_eq_true rfl) ?_
    rintro _ _ ⟨rfl, rfl⟩
    refine mj_k rfl rfl ?_
    exact mj_iret h rfl d_Sw_stream_53 (by decide) (by decide) ⟨rfl, rfl⟩
  · refine mj_tswIn h.1 d_Sw_stream_16 (by decide) (by decide) (off := 38) (by decide) (tgt := 54) (by decide) ?_
    refine mj_blk h.1 b_Sw_stream_54 rfl trivial ?_
    refine mj_callV h zGood (ev_Sm_next l D cA _ _ _ _ _ _ _ _) v_Sm_next l_Sw_stream_56 d_Sw_stream_56 rfl ⟨by decide, by decide⟩ ⟨by decide, by decide⟩ [(0, 7), (1, 16), (2, 17)] rfl rfl rfl rfl rfl rfl (Nat.le_of_ble_eq_true rfl) ?_
    rintro _ _ ⟨rfl, rfl⟩
    refine mj_k rfl rfl ?_
    exact mj_iret h rfl d_Sw_stream_59 (by decide) (by decide) ⟨rfl, rfl⟩
  · refine mj_tswIn h.1 d_Sw_stream_16 (by decide) (by decide) (off := 44) (by decide) (tgt := 60) (by decide) ?_
    refine mj_blk h.1 b_Sw_stream_60 rfl trivial ?_
    refine mj_callV h zGood (ev_Sm_heldCount l D cA _ _ _ _ _ _ _ _) v_Sm_heldCount l_Sw_stream_62 d_Sw_stream_62 rfl ⟨by decide, by decide⟩ ⟨by decide, by decide⟩ [(0, 7), (1, 16), (2, 17)] rfl rfl rfl rfl rfl rfl (Nat.le_of_ble_eq_true rfl) ?_
    rintro _ _ ⟨rfl, rfl⟩
    refine mj_k rfl rfl ?_
    exact mj_iret h rfl d_Sw_stream_65 (by decide) (by decide) ⟨rfl, rfl⟩
  · refine mj_tswIn h.1 d_Sw_stream_16 (by decide) (by decide) (off := 50) (by decide) (tgt := 66) (by decide) ?_
    refine mj_blk h.1 b_Sw_stream_66 rfl trivial ?_
    refine mj_callV h zGood (ev_Sm_hasEnded l D cA _ _ _ _ _ _ _ _) v_Sm_hasEnded l_Sw_stream_68 d_Sw_stream_68 rfl ⟨by decide, by decide⟩ ⟨by decide, by decide⟩ [(0, 7), (1, 16), (2, 17)] rfl rfl rfl rfl rfl rfl (Nat.le_of_ble_eq_true rfl) ?_
    rintro _ _ ⟨rfl, rfl⟩
    refine mj_k rfl rfl ?_
    first | refine mj_ifeqB h.1 (tgt := 78) d_Sw_stream_71 (by decide) (fun h1 => ?_) (fun h1 => ?_) | refine mj_ifeq h.1 (tgt := 78) d_Sw_stream_71 (by decide) (fun h1 => ?_) (fun h1 => ?_)
    · refine mj_blk h.1 b_Sw_stream_78 rfl trivial ?_
      exact mj_iret h rfl d_Sw_stream_79 (by decide) (by decide) ⟨by show some (Value.int _) = some (Value.int (if en 1 = true then 1 else 0)); rw [if_neg h1], rfl⟩
    · refine mj_blk h.1 b_Sw_stream_74 rfl trivial ?_
      exact mj_iret h rfl d_Sw_stream_79 (by decide) (by decide) ⟨by show some (Value.int _) = some (Value.int (if en 1 = true then 1 else 0)); rw [if_pos h1], rfl⟩
  · refine mj_tswOut h.1 d_Sw_stream_16 hsw (tgt := 80) (by decide) ?_
    refine mj_blk h.1 b_Sw_stream_80 rfl trivial ?_
    exact mj_iret h rfl d_Sw_stream_81 (by decide) (by decide) ⟨by unfold qStr; rw [if_neg (show ¬ w = 0 from mj_out3 hsw 0 (by decide)), if_neg (show ¬ w = 1 from mj_out3 hsw 1 (by decide)), if_neg (show ¬ w = 2 from mj_out3 hsw 2 (by decide)), if_neg (show ¬ w = 3 from mj_out3 hsw 3 (by decide))], rfl⟩
set_option maxRecDepth 100000 in
set_option maxHeartbeats 4000000 in
theorem ev_Sw_text_0_1 (hl : lv 0 = true) (ht : ts 1 ≤ 80) (k : Int32) : E0_Sw_text l D cA [.ref 50, .int (nI 0), .int 1, .int k] [(50, cSw st rc), (0, .inr (2, [.ref 1, .int ph])), (1, .inl (3, 4, .inr (.inr [some 2, some 3, some 4, some 5]))), (2, cFl 6 7 (ch 0) (cp 0) (sh 0) (sp 0) (ha 0) (lv 0)), (3, cFl 8 9 (ch 1) (cp 1) (sh 1) (sp 1) (ha 1) (lv 1)), (4, cFl 10 11 (ch 2) (cp 2) (sh 2) (sp 2) (ha 2) (lv 2)), (5, cFl 12 13 (ch 3) (cp 3) (sh 3) (sp 3) (ha 3) (lv 3)), (6, cSm 14 15 (ts 0) (hs 0) (nx 0) (rr 0) (bg 0) (en 0)), (14, cIs 80 (tx 0)), (15, cIs 32 (hd 0)), (7, cSm 16 17 (ts 1) (hs 1) (nx 1) (rr 1) (bg 1) (en 1)), (16, cIs 80 (tx 1)), (17, cIs 32 (hd 1)), (8, cSm 18 19 (ts 2) (hs 2) (nx 2) (rr 2) (bg 2) (en 2)), (18, cIs 80 (tx 2)), (19, cIs 32 (hd 2)), (9, cSm 20 21 (ts 3) (hs 3) (nx 3) (rr 3) (bg 3) (en 3)), (20, cIs 80 (tx 3)), (21, cIs 32 (hd 3)), (10, cSm 22 23 (ts 4) (hs 4) (nx 4) (rr 4) (bg 4) (en 4)), (22, cIs 80 (tx 4)), (23, cIs 32 (hd 4)), (11, cSm 24 25 (ts 5) (hs 5) (nx 5) (rr 5) (bg 5) (en 5)), (24, cIs 80 (tx 5)), (25, cIs 32 (hd 5)), (12, cSm 26 27 (ts 6) (hs 6) (nx 6) (rr 6) (bg 6) (en 6)), (26, cIs 80 (tx 6)), (27, cIs 32 (hd 6)), (13, cSm 28 29 (ts 7) (hs 7) (nx 7) (rr 7) (bg 7) (en 7)), (28, cIs 80 (tx 7)), (29, cIs 32 (hd 7))] (some (.int (sAt (tx 1) (ts 1) k))) [(50, cSw st rc), (0, .inr (2, [.ref 1, .int ph])), (1, .inl (3, 4, .inr (.inr [some 2, some 3, some 4, some 5]))), (2, cFl 6 7 (ch 0) (cp 0) (sh 0) (sp 0) (ha 0) (lv 0)), (3, cFl 8 9 (ch 1) (cp 1) (sh 1) (sp 1) (ha 1) (lv 1)), (4, cFl 10 11 (ch 2) (cp 2) (sh 2) (sp 2) (ha 2) (lv 2)), (5, cFl 12 13 (ch 3) (cp 3) (sh 3) (sp 3) (ha 3) (lv 3)), (6, cSm 14 15 (ts 0) (hs 0) (nx 0) (rr 0) (bg 0) (en 0)), (14, cIs 80 (tx 0)), (15, cIs 32 (hd 0)), (7, cSm 16 17 (ts 1) (hs 1) (nx 1) (rr 1) (bg 1) (en 1)), (16, cIs 80 (tx 1)), (17, cIs 32 (hd 1)), (8, cSm 18 19 (ts 2) (hs 2) (nx 2) (rr 2) (bg 2) (en 2)), (18, cIs 80 (tx 2)), (19, cIs 32 (hd 2)), (9, cSm 20 21 (ts 3) (hs 3) (nx 3) (rr 3) (bg 3) (en 3)), (20, cIs 80 (tx 3)), (21, cIs 32 (hd 3)), (10, cSm 22 23 (ts 4) (hs 4) (nx 4) (rr 4) (bg 4) (en 4)), (22, cIs 80 (tx 4)), (23, cIs 32 (hd 4)), (11, cSm 24 25 (ts 5) (hs 5) (nx 5) (rr 5) (bg 5) (en 5)), (24, cIs 80 (tx 5)), (25, cIs 32 (hd 5)), (12, cSm 26 27 (ts 6) (hs 6) (nx 6) (rr 6) (bg 6) (en 6)), (26, cIs 80 (tx 6)), (27, cIs 32 (hd 6)), (13, cSm 28 29 (ts 7) (hs 7) (nx 7) (rr 7) (bg 7) (en 7)), (28, cIs 80 (tx 7)), (29, cIs 32 (hd 7))] := by
  refine mj_ev (lv := [(0, .ref 50), (1, .int (nI 0)), (2, .int 1), (3, .int k)]) (by decide +kernel) (Nat.le_of_ble_eq_true rfl) rfl (fun X h => ?_)
  refine mj_blk h.1 b_Sw_text_0 rfl trivial ?_
  refine mj_callV h zGood (ev_Sw_streamAt_0_1 l D cA _ _ _ _ _ _ _ _ _ hl) v_Sw_streamAt l_Sw_text_3 d_Sw_text_3 rfl ⟨by decide, by decide⟩ ⟨by decide, by decide⟩ [(50, 50), (51, 51), (40, 40), (53, 53), (60, 60), (70, 70), (0, 0), (1, 1), (2, 2), (3, 3), (4, 4), (5, 5), (6, 6), (7, 7), (8, 8), (9, 9), (10, 10), (11, 11), (12, 12), (13, 13)] rfl rfl rfl rfl rfl rfl (Nat.le_of_ble_eq_true rfl) ?_
  rintro _ _ ⟨rfl, rfl⟩
  refine mj_k rfl rfl ?_
  refine mj_blk h.1 b_Sw_text_6 rfl trivial ?_
  refine mj_ifnonnull_r h.1 d_Sw_text_10 (tgt := 17) (by decide) ?_
  refine mj_blk h.1 b_Sw_text_17 rfl trivial ?_
  refine mj_callV h zGood (ev_Sm_byteAt l D cA _ _ _ _ _ _ _ _ ht _) v_Sm_byteAt l_Sw_text_20 d_Sw_text_20 rfl ⟨by decide, by decide⟩ ⟨by decide, by decide⟩ [(0, 7), (1, 16), (2, 17)] rfl rfl rfl rfl rfl rfl (Nat.le_of_ble_eq_true rfl) ?_
  rintro _ _ ⟨rfl, rfl⟩
  refine mj_k rfl rfl ?_
  exact mj_iret h rfl d_Sw_text_23 (by decide) (by decide) ⟨rfl, rfl⟩
set_option maxRecDepth 100000 in
set_option maxHeartbeats 4000000 in
theorem ev_Sw_stream_1_0 (hl : lv 1 = true) (w : Int32) : E0_Sw_stream l D cA [.ref 50, .int (nI 1), .int 0, .int w] [(50, cSw st rc), (0, .inr (2, [.ref 1, .int ph])), (1, .inl (3, 4, .inr (.inr [some 2, some 3, some 4, some 5]))), (2, cFl 6 7 (ch 0) (cp 0) (sh 0) (sp 0) (ha 0) (lv 0)), (3, cFl 8 9 (ch 1) (cp 1) (sh 1) (sp 1) (ha 1) (lv 1)), (4, cFl 10 11 (ch 2) (cp 2) (sh 2) (sp 2) (ha 2) (lv 2)), (5, cFl 12 13 (ch 3) (cp 3) (sh 3) (sp 3) (ha 3) (lv 3)), (6, cSm 14 15 (ts 0) (hs 0) (nx 0) (rr 0) (bg 0) (en 0)), (14, cIs 80 (tx 0)), (15, cIs 32 (hd 0)), (7, cSm 16 17 (ts 1) (hs 1) (nx 1) (rr 1) (bg 1) (en 1)), (16, cIs 80 (tx 1)), (17, cIs 32 (hd 1)), (8, cSm 18 19 (ts 2) (hs 2) (nx 2) (rr 2) (bg 2) (en 2)), (18, cIs 80 (tx 2)), (19, cIs 32 (hd 2)), (9, cSm 20 21 (ts 3) (hs 3) (nx 3) (rr 3) (bg 3) (en 3)), (20, cIs 80 (tx 3)), (21, cIs 32 (hd 3)), (10, cSm 22 23 (ts 4) (hs 4) (nx 4) (rr 4) (bg 4) (en 4)), (22, cIs 80 (tx 4)), (23, cIs 32 (hd 4)), (11, cSm 24 25 (ts 5) (hs 5) (nx 5) (rr 5) (bg 5) (en 5)), (24, cIs 80 (tx 5)), (25, cIs 32 (hd 5)), (12, cSm 26 27 (ts 6) (hs 6) (nx 6) (rr 6) (bg 6) (en 6)), (26, cIs 80 (tx 6)), (27, cIs 32 (hd 6)), (13, cSm 28 29 (ts 7) (hs 7) (nx 7) (rr 7) (bg 7) (en 7)), (28, cIs 80 (tx 7)), (29, cIs 32 (hd 7))] (some (.int (qStr ts hs nx en 2 w))) [(50, cSw st rc), (0, .inr (2, [.ref 1, .int ph])), (1, .inl (3, 4, .inr (.inr [some 2, some 3, some 4, some 5]))), (2, cFl 6 7 (ch 0) (cp 0) (sh 0) (sp 0) (ha 0) (lv 0)), (3, cFl 8 9 (ch 1) (cp 1) (sh 1) (sp 1) (ha 1) (lv 1)), (4, cFl 10 11 (ch 2) (cp 2) (sh 2) (sp 2) (ha 2) (lv 2)), (5, cFl 12 13 (ch 3) (cp 3) (sh 3) (sp 3) (ha 3) (lv 3)), (6, cSm 14 15 (ts 0) (hs 0) (nx 0) (rr 0) (bg 0) (en 0)), (14, cIs 80 (tx 0)), (15, cIs 32 (hd 0)), (7, cSm 16 17 (ts 1) (hs 1) (nx 1) (rr 1) (bg 1) (en 1)), (16, cIs 80 (tx 1)), (17, cIs 32 (hd 1)), (8, cSm 18 19 (ts 2) (hs 2) (nx 2) (rr 2) (bg 2) (en 2)), (18, cIs 80 (tx 2)), (19, cIs 32 (hd 2)), (9, cSm 20 21 (ts 3) (hs 3) (nx 3) (rr 3) (bg 3) (en 3)), (20, cIs 80 (tx 3)), (21, cIs 32 (hd 3)), (10, cSm 22 23 (ts 4) (hs 4) (nx 4) (rr 4) (bg 4) (en 4)), (22, cIs 80 (tx 4)), (23, cIs 32 (hd 4)), (11, cSm 24 25 (ts 5) (hs 5) (nx 5) (rr 5) (bg 5) (en 5)), (24, cIs 80 (tx 5)), (25, cIs 32 (hd 5)), (12, cSm 26 27 (ts 6) (hs 6) (nx 6) (rr 6) (bg 6) (en 6)), (26, cIs 80 (tx 6)), (27, cIs 32 (hd 6)), (13, cSm 28 29 (ts 7) (hs 7) (nx 7) (rr 7) (bg 7) (en 7)), (28, cIs 80 (tx 7)), (29, cIs 32 (hd 7))] := by
  refine mj_ev (lv := [(0, .ref 50), (1, .int (nI 1)), (2, .int 0), (3, .int w)]) (by decide +kernel) (Nat.le_of_ble_eq_true rfl) rfl (fun X h => ?_)
  refine mj_blk h.1 b_Sw_stream_0 rfl trivial ?_
  refine mj_callV h zGood (ev_Sw_streamAt_1_0 l D cA _ _ _ _ _ _ _ _ _ hl) v_Sw_streamAt l_Sw_stream_3 d_Sw_stream_3 rfl ⟨by decide, by decide⟩ ⟨by decide, by decide⟩ [(50, 50), (51, 51), (40, 40), (53, 53), (60, 60), (70, 70), (0, 0), (1, 1), (2, 2), (3, 3), (4, 4), (5, 5), (6, 6), (7, 7), (8, 8), (9, 9), (10, 10), (11, 11), (12, 12), (13, 13)] rfl rfl rfl rfl rfl rfl (Nat.le_of_ble_eq_true rfl) ?_
  rintro _ _ ⟨rfl, rfl⟩
  refine mj_k rfl rfl ?_
  refine mj_blk h.1 b_Sw_stream_6 rfl trivial ?_
  refine mj_ifnonnull_r h.1 d_Sw_stream_10 (tgt := 15) (by decide) ?_
  refine mj_blk h.1 b_Sw_stream_15 rfl trivial ?_
  rcases mj_sw3 w with rfl | rfl | rfl | rfl | hsw
  · refine mj_tswIn h.1 d_Sw_stream_16 (by decide) (by decide) (off := 32) (by decide) (tgt := 48) (by decide) ?_
    refine mj_blk h.1 b_Sw_stream_48 rfl trivial ?_
    refine mj_callV h zGood (ev_Sm_size l D cA _ _ _ _ _ _ _ _) v_Sm_size l_Sw_stream_50 d_Sw_stream_50 rfl ⟨by decide, by decide⟩ ⟨by decide, by decide⟩ [(0, 8), (1, 18), (2, 19)] rfl rfl rfl rfl rfl rfl (Nat.le_of_ble_eq_true rfl) ?_
    rintro _ _ ⟨rfl, rfl⟩
    refine mj_k rfl rfl ?_
    exact mj_iret h rfl d_Sw_stream_53 (by decide) (by decide) ⟨rfl, rfl⟩
  · refine mj_tswIn h.1 d_Sw_stream_16 (by decide) (by decide) (off := 38) (by decide) (tgt := 54) (by decide) ?_
    refine mj_blk h.1 b_Sw_stream_54 rfl trivial ?_
    refine mj_callV h zGood (ev_Sm_next l D cA _ _ _ _ _ _ _ _) v_Sm_next l_Sw_stream_56 d_Sw_stream_56 rfl ⟨by decide, by decide⟩ ⟨by decide, by decide⟩ [(0, 8), (1, 18), (2, 19)] rfl rfl rfl rfl rfl rfl (Nat.le_of_ble_eq_true rfl) ?_
    rintro _ _ ⟨rfl, rfl⟩
    refine mj_k rfl rfl ?_
    exact mj_iret h rfl d_Sw_stream_59 (by decide) (by decide) ⟨rfl, rfl⟩
  · refine mj_tswIn h.1 d_Sw_stream_16 (by decide) (by decide) (off := 44) (by decide) (tgt := 60) (by decide) ?_
    refine mj_blk h.1 b_Sw_stream_60 rfl trivial ?_
    refine mj_callV h zGood (ev_Sm_heldCount l D cA _ _ _ _ _ _ _ _) v_Sm_heldCount l_Sw_stream_62 d_Sw_stream_62 rfl ⟨by decide, by decide⟩ ⟨by decide, by decide⟩ [(0, 8), (1, 18), (2, 19)] rfl rfl rfl rfl rfl rfl (Nat.le_of_ble_eq_true rfl) ?_
    rintro _ _ ⟨rfl, rfl⟩
    refine mj_k rfl rfl ?_
    exact mj_iret h rfl d_Sw_stream_65 (by decide) (by decide) ⟨rfl, rfl⟩
  · refine mj_tswIn h.1 d_Sw_stream_16 (by decide) (by decide) (off := 50) (by decide) (tgt := 66) (by decide) ?_
    refine mj_blk h.1 b_Sw_stream_66 rfl trivial ?_
    refine mj_callV h zGood (ev_Sm_hasEnded l D cA _ _ _ _ _ _ _ _) v_Sm_hasEnded l_Sw_stream_68 d_Sw_stream_68 rfl ⟨by decide, by decide⟩ ⟨by decide, by decide⟩ [(0, 8), (1, 18), (2, 19)] rfl rfl rfl rfl rfl rfl (Nat.le_of_ble_eq_true rfl) ?_
    rintro _ _ ⟨rfl, rfl⟩
    refine mj_k rfl rfl ?_
    first | refine mj_ifeqB h.1 (tgt := 78) d_Sw_stream_71 (by decide) (fun h1 => ?_) (fun h1 => ?_) | refine mj_ifeq h.1 (tgt := 78) d_Sw_stream_71 (by decide) (fun h1 => ?_) (fun h1 => ?_)
    · refine mj_blk h.1 b_Sw_stream_78 rfl trivial ?_
      exact mj_iret h rfl d_Sw_stream_79 (by decide) (by decide) ⟨by show some (Value.int _) = some (Value.int (if en 2 = true then 1 else 0)); rw [if_neg h1], rfl⟩
    · refine mj_blk h.1 b_Sw_stream_74 rfl trivial ?_
      exact mj_iret h rfl d_Sw_stream_79 (by decide) (by decide) ⟨by show some (Value.int _) = some (Value.int (if en 2 = true then 1 else 0)); rw [if_pos h1], rfl⟩
  · refine mj_tswOut h.1 d_Sw_stream_16 hsw (tgt := 80) (by decide) ?_
    refine mj_blk h.1 b_Sw_stream_80 rfl trivial ?_
    exact mj_iret h rfl d_Sw_stream_81 (by decide) (by decide) ⟨by unfold qStr; rw [if_neg (show ¬ w = 0 from mj_out3 hsw 0 (by decide)), if_neg (show ¬ w = 1 from mj_out3 hsw 1 (by decide)), if_neg (show ¬ w = 2 from mj_out3 hsw 2 (by decide)), if_neg (show ¬ w = 3 from mj_out3 hsw 3 (by decide))], rfl⟩
set_option maxRecDepth 100000 in
set_option maxHeartbeats 4000000 in
theorem ev_Sw_text_1_0 (hl : lv 1 = true) (ht : ts 2 ≤ 80) (k : Int32) : E0_Sw_text l D cA [.ref 50, .int (nI 1), .int 0, .int k] [(50, cSw st rc), (0, .inr (2, [.ref 1, .int ph])), (1, .inl (3, 4, .inr (.inr [some 2, some 3, some 4, some 5]))), (2, cFl 6 7 (ch 0) (cp 0) (sh 0) (sp 0) (ha 0) (lv 0)), (3, cFl 8 9 (ch 1) (cp 1) (sh 1) (sp 1) (ha 1) (lv 1)), (4, cFl 10 11 (ch 2) (cp 2) (sh 2) (sp 2) (ha 2) (lv 2)), (5, cFl 12 13 (ch 3) (cp 3) (sh 3) (sp 3) (ha 3) (lv 3)), (6, cSm 14 15 (ts 0) (hs 0) (nx 0) (rr 0) (bg 0) (en 0)), (14, cIs 80 (tx 0)), (15, cIs 32 (hd 0)), (7, cSm 16 17 (ts 1) (hs 1) (nx 1) (rr 1) (bg 1) (en 1)), (16, cIs 80 (tx 1)), (17, cIs 32 (hd 1)), (8, cSm 18 19 (ts 2) (hs 2) (nx 2) (rr 2) (bg 2) (en 2)), (18, cIs 80 (tx 2)), (19, cIs 32 (hd 2)), (9, cSm 20 21 (ts 3) (hs 3) (nx 3) (rr 3) (bg 3) (en 3)), (20, cIs 80 (tx 3)), (21, cIs 32 (hd 3)), (10, cSm 22 23 (ts 4) (hs 4) (nx 4) (rr 4) (bg 4) (en 4)), (22, cIs 80 (tx 4)), (23, cIs 32 (hd 4)), (11, cSm 24 25 (ts 5) (hs 5) (nx 5) (rr 5) (bg 5) (en 5)), (24, cIs 80 (tx 5)), (25, cIs 32 (hd 5)), (12, cSm 26 27 (ts 6) (hs 6) (nx 6) (rr 6) (bg 6) (en 6)), (26, cIs 80 (tx 6)), (27, cIs 32 (hd 6)), (13, cSm 28 29 (ts 7) (hs 7) (nx 7) (rr 7) (bg 7) (en 7)), (28, cIs 80 (tx 7)), (29, cIs 32 (hd 7))] (some (.int (sAt (tx 2) (ts 2) k))) [(50, cSw st rc), (0, .inr (2, [.ref 1, .int ph])), (1, .inl (3, 4, .inr (.inr [some 2, some 3, some 4, some 5]))), (2, cFl 6 7 (ch 0) (cp 0) (sh 0) (sp 0) (ha 0) (lv 0)), (3, cFl 8 9 (ch 1) (cp 1) (sh 1) (sp 1) (ha 1) (lv 1)), (4, cFl 10 11 (ch 2) (cp 2) (sh 2) (sp 2) (ha 2) (lv 2)), (5, cFl 12 13 (ch 3) (cp 3) (sh 3) (sp 3) (ha 3) (lv 3)), (6, cSm 14 15 (ts 0) (hs 0) (nx 0) (rr 0) (bg 0) (en 0)), (14, cIs 80 (tx 0)), (15, cIs 32 (hd 0)), (7, cSm 16 17 (ts 1) (hs 1) (nx 1) (rr 1) (bg 1) (en 1)), (16, cIs 80 (tx 1)), (17, cIs 32 (hd 1)), (8, cSm 18 19 (ts 2) (hs 2) (nx 2) (rr 2) (bg 2) (en 2)), (18, cIs 80 (tx 2)), (19, cIs 32 (hd 2)), (9, cSm 20 21 (ts 3) (hs 3) (nx 3) (rr 3) (bg 3) (en 3)), (20, cIs 80 (tx 3)), (21, cIs 32 (hd 3)), (10, cSm 22 23 (ts 4) (hs 4) (nx 4) (rr 4) (bg 4) (en 4)), (22, cIs 80 (tx 4)), (23, cIs 32 (hd 4)), (11, cSm 24 25 (ts 5) (hs 5) (nx 5) (rr 5) (bg 5) (en 5)), (24, cIs 80 (tx 5)), (25, cIs 32 (hd 5)), (12, cSm 26 27 (ts 6) (hs 6) (nx 6) (rr 6) (bg 6) (en 6)), (26, cIs 80 (tx 6)), (27, cIs 32 (hd 6)), (13, cSm 28 29 (ts 7) (hs 7) (nx 7) (rr 7) (bg 7) (en 7)), (28, cIs 80 (tx 7)), (29, cIs 32 (hd 7))] := by
  refine mj_ev (lv := [(0, .ref 50), (1, .int (nI 1)), (2, .int 0), (3, .int k)]) (by decide +kernel) (Nat.le_of_ble_eq_true rfl) rfl (fun X h => ?_)
  refine mj_blk h.1 b_Sw_text_0 rfl trivial ?_
  refine mj_callV h zGood (ev_Sw_streamAt_1_0 l D cA _ _ _ _ _ _ _ _ _ hl) v_Sw_streamAt l_Sw_text_3 d_Sw_text_3 rfl ⟨by decide, by decide⟩ ⟨by decide, by decide⟩ [(50, 50), (51, 51), (40, 40), (53, 53), (60, 60), (70, 70), (0, 0), (1, 1), (2, 2), (3, 3), (4, 4), (5, 5), (6, 6), (7, 7), (8, 8), (9, 9), (10, 10), (11, 11), (12, 12), (13, 13)] rfl rfl rfl rfl rfl rfl (Nat.le_of_ble_eq_true rfl) ?_
  rintro _ _ ⟨rfl, rfl⟩
  refine mj_k rfl rfl ?_
  refine mj_blk h.1 b_Sw_text_6 rfl trivial ?_
  refine mj_ifnonnull_r h.1 d_Sw_text_10 (tgt := 17) (by decide) ?_
  refine mj_blk h.1 b_Sw_text_17 rfl trivial ?_
  refine mj_callV h zGood (ev_Sm_byteAt l D cA _ _ _ _ _ _ _ _ ht _) v_Sm_byteAt l_Sw_text_20 d_Sw_text_20 rfl ⟨by decide, by decide⟩ ⟨by decide, by decide⟩ [(0, 8), (1, 18), (2, 19)] rfl rfl rfl rfl rfl rfl (Nat.le_of_ble_eq_true rfl) ?_
  rintro _ _ ⟨rfl, rfl⟩
  refine mj_k rfl rfl ?_
  exact mj_iret h rfl d_Sw_text_23 (by decide) (by decide) ⟨rfl, rfl⟩
set_option maxRecDepth 100000 in
set_option maxHeartbeats 4000000 in
theorem ev_Sw_stream_1_1 (hl : lv 1 = true) (w : Int32) : E0_Sw_stream l D cA [.ref 50, .int (nI 1), .int 1, .int w] [(50, cSw st rc), (0, .inr (2, [.ref 1, .int ph])), (1, .inl (3, 4, .inr (.inr [some 2, some 3, some 4, some 5]))), (2, cFl 6 7 (ch 0) (cp 0) (sh 0) (sp 0) (ha 0) (lv 0)), (3, cFl 8 9 (ch 1) (cp 1) (sh 1) (sp 1) (ha 1) (lv 1)), (4, cFl 10 11 (ch 2) (cp 2) (sh 2) (sp 2) (ha 2) (lv 2)), (5, cFl 12 13 (ch 3) (cp 3) (sh 3) (sp 3) (ha 3) (lv 3)), (6, cSm 14 15 (ts 0) (hs 0) (nx 0) (rr 0) (bg 0) (en 0)), (14, cIs 80 (tx 0)), (15, cIs 32 (hd 0)), (7, cSm 16 17 (ts 1) (hs 1) (nx 1) (rr 1) (bg 1) (en 1)), (16, cIs 80 (tx 1)), (17, cIs 32 (hd 1)), (8, cSm 18 19 (ts 2) (hs 2) (nx 2) (rr 2) (bg 2) (en 2)), (18, cIs 80 (tx 2)), (19, cIs 32 (hd 2)), (9, cSm 20 21 (ts 3) (hs 3) (nx 3) (rr 3) (bg 3) (en 3)), (20, cIs 80 (tx 3)), (21, cIs 32 (hd 3)), (10, cSm 22 23 (ts 4) (hs 4) (nx 4) (rr 4) (bg 4) (en 4)), (22, cIs 80 (tx 4)), (23, cIs 32 (hd 4)), (11, cSm 24 25 (ts 5) (hs 5) (nx 5) (rr 5) (bg 5) (en 5)), (24, cIs 80 (tx 5)), (25, cIs 32 (hd 5)), (12, cSm 26 27 (ts 6) (hs 6) (nx 6) (rr 6) (bg 6) (en 6)), (26, cIs 80 (tx 6)), (27, cIs 32 (hd 6)), (13, cSm 28 29 (ts 7) (hs 7) (nx 7) (rr 7) (bg 7) (en 7)), (28, cIs 80 (tx 7)), (29, cIs 32 (hd 7))] (some (.int (qStr ts hs nx en 3 w))) [(50, cSw st rc), (0, .inr (2, [.ref 1, .int ph])), (1, .inl (3, 4, .inr (.inr [some 2, some 3, some 4, some 5]))), (2, cFl 6 7 (ch 0) (cp 0) (sh 0) (sp 0) (ha 0) (lv 0)), (3, cFl 8 9 (ch 1) (cp 1) (sh 1) (sp 1) (ha 1) (lv 1)), (4, cFl 10 11 (ch 2) (cp 2) (sh 2) (sp 2) (ha 2) (lv 2)), (5, cFl 12 13 (ch 3) (cp 3) (sh 3) (sp 3) (ha 3) (lv 3)), (6, cSm 14 15 (ts 0) (hs 0) (nx 0) (rr 0) (bg 0) (en 0)), (14, cIs 80 (tx 0)), (15, cIs 32 (hd 0)), (7, cSm 16 17 (ts 1) (hs 1) (nx 1) (rr 1) (bg 1) (en 1)), (16, cIs 80 (tx 1)), (17, cIs 32 (hd 1)), (8, cSm 18 19 (ts 2) (hs 2) (nx 2) (rr 2) (bg 2) (en 2)), (18, cIs 80 (tx 2)), (19, cIs 32 (hd 2)), (9, cSm 20 21 (ts 3) (hs 3) (nx 3) (rr 3) (bg 3) (en 3)), (20, cIs 80 (tx 3)), (21, cIs 32 (hd 3)), (10, cSm 22 23 (ts 4) (hs 4) (nx 4) (rr 4) (bg 4) (en 4)), (22, cIs 80 (tx 4)), (23, cIs 32 (hd 4)), (11, cSm 24 25 (ts 5) (hs 5) (nx 5) (rr 5) (bg 5) (en 5)), (24, cIs 80 (tx 5)), (25, cIs 32 (hd 5)), (12, cSm 26 27 (ts 6) (hs 6) (nx 6) (rr 6) (bg 6) (en 6)), (26, cIs 80 (tx 6)), (27, cIs 32 (hd 6)), (13, cSm 28 29 (ts 7) (hs 7) (nx 7) (rr 7) (bg 7) (en 7)), (28, cIs 80 (tx 7)), (29, cIs 32 (hd 7))] := by
  refine mj_ev (lv := [(0, .ref 50), (1, .int (nI 1)), (2, .int 1), (3, .int w)]) (by decide +kernel) (Nat.le_of_ble_eq_true rfl) rfl (fun X h => ?_)
  refine mj_blk h.1 b_Sw_stream_0 rfl trivial ?_
  refine mj_callV h zGood (ev_Sw_streamAt_1_1 l D cA _ _ _ _ _ _ _ _ _ hl) v_Sw_streamAt l_Sw_stream_3 d_Sw_stream_3 rfl ⟨by decide, by decide⟩ ⟨by decide, by decide⟩ [(50, 50), (51, 51), (40, 40), (53, 53), (60, 60), (70, 70), (0, 0), (1, 1), (2, 2), (3, 3), (4, 4), (5, 5), (6, 6), (7, 7), (8, 8), (9, 9), (10, 10), (11, 11), (12, 12), (13, 13)] rfl rfl rfl rfl rfl rfl (Nat.le_of_ble_eq_true rfl) ?_
  rintro _ _ ⟨rfl, rfl⟩
  refine mj_k rfl rfl ?_
  refine mj_blk h.1 b_Sw_stream_6 rfl trivial ?_
  refine mj_ifnonnull_r h.1 d_Sw_stream_10 (tgt := 15) (by decide) ?_
  refine mj_blk h.1 b_Sw_stream_15 rfl trivial ?_
  rcases mj_sw3 w with rfl | rfl | rfl | rfl | hsw
  · refine mj_tswIn h.1 d_Sw_stream_16 (by decide) (by decide) (off := 32) (by decide) (tgt := 48) (by decide) ?_
    refine mj_blk h.1 b_Sw_stream_48 rfl trivial ?_
    refine mj_callV h zGood (ev_Sm_size l D cA _ _ _ _ _ _ _ _) v_Sm_size l_Sw_stream_50 d_Sw_stream_50 rfl ⟨by decide, by decide⟩ ⟨by decide, by decide⟩ [(0, 9), (1, 20), (2, 21)] rfl rfl rfl rfl rfl rfl (Nat.le_of_ble_eq_true rfl) ?_
    rintro _ _ ⟨rfl, rfl⟩
    refine mj_k rfl rfl ?_
    exact mj_iret h rfl d_Sw_stream_53 (by decide) (by decide) ⟨rfl, rfl⟩
  · refine mj_tswIn h.1 d_Sw_stream_16 (by decide) (by decide) (off := 38) (by decide) (tgt := 54) (by decide) ?_
    refine mj_blk h.1 b_Sw_stream_54 rfl trivial ?_
    refine mj_callV h zGood (ev_Sm_next l D cA _ _ _ _ _ _ _ _) v_Sm_next l_Sw_stream_56 d_Sw_stream_56 rfl ⟨by decide, by decide⟩ ⟨by decide, by decide⟩ [(0, 9), (1, 20), (2, 21)] rfl rfl rfl rfl rfl rfl (Nat.le_of_ble_eq_true rfl) ?_
    rintro _ _ ⟨rfl, rfl⟩
    refine mj_k rfl rfl ?_
    exact mj_iret h rfl d_Sw_stream_59 (by decide) (by decide) ⟨rfl, rfl⟩
  · refine mj_tswIn h.1 d_Sw_stream_16 (by decide) (by decide) (off := 44) (by decide) (tgt := 60) (by decide) ?_
    refine mj_blk h.1 b_Sw_stream_60 rfl trivial ?_
    refine mj_callV h zGood (ev_Sm_heldCount l D cA _ _ _ _ _ _ _ _) v_Sm_heldCount l_Sw_stream_62 d_Sw_stream_62 rfl ⟨by decide, by decide⟩ ⟨by decide, by decide⟩ [(0, 9), (1, 20), (2, 21)] rfl rfl rfl rfl rfl rfl (Nat.le_of_ble_eq_true rfl) ?_
    rintro _ _ ⟨rfl, rfl⟩
    refine mj_k rfl rfl ?_
    exact mj_iret h rfl d_Sw_stream_65 (by decide) (by decide) ⟨rfl, rfl⟩
  · refine mj_tswIn h.1 d_Sw_stream_16 (by decide) (by decide) (off := 50) (by decide) (tgt := 66) (by decide) ?_
    refine mj_blk h.1 b_Sw_stream_66 rfl trivial ?_
    refine mj_callV h zGood (ev_Sm_hasEnded l D cA _ _ _ _ _ _ _ _) v_Sm_hasEnded l_Sw_stream_68 d_Sw_stream_68 rfl ⟨by decide, by decide⟩ ⟨by decide, by decide⟩ [(0, 9), (1, 20), (2, 21)] rfl rfl rfl rfl rfl rfl (Nat.le_of_ble_eq_true rfl) ?_
    rintro _ _ ⟨rfl, rfl⟩
    refine mj_k rfl rfl ?_
    first | refine mj_ifeqB h.1 (tgt := 78) d_Sw_stream_71 (by decide) (fun h1 => ?_) (fun h1 => ?_) | refine mj_ifeq h.1 (tgt := 78) d_Sw_stream_71 (by decide) (fun h1 => ?_) (fun h1 => ?_)
    · refine mj_blk h.1 b_Sw_stream_78 rfl trivial ?_
      exact mj_iret h rfl d_Sw_stream_79 (by decide) (by decide) ⟨by show some (Value.int _) = some (Value.int (if en 3 = true then 1 else 0)); rw [if_neg h1], rfl⟩
    · refine mj_blk h.1 b_Sw_stream_74 rfl trivial ?_
      exact mj_iret h rfl d_Sw_stream_79 (by decide) (by decide) ⟨by show some (Value.int _) = some (Value.int (if en 3 = true then 1 else 0)); rw [if_pos h1], rfl⟩
  · refine mj_tswOut h.1 d_Sw_stream_16 hsw (tgt := 80) (by decide) ?_
    refine mj_blk h.1 b_Sw_stream_80 rfl trivial ?_
    exact mj_iret h rfl d_Sw_stream_81 (by decide) (by decide) ⟨by unfold qStr; rw [if_neg (show ¬ w = 0 from mj_out3 hsw 0 (by decide)), if_neg (show ¬ w = 1 from mj_out3 hsw 1 (by decide)), if_neg (show ¬ w = 2 from mj_out3 hsw 2 (by decide)), if_neg (show ¬ w = 3 from mj_out3 hsw 3 (by decide))], rfl⟩
set_option maxRecDepth 100000 in
set_option maxHeartbeats 4000000 in
theorem ev_Sw_text_1_1 (hl : lv 1 = true) (ht : ts 3 ≤ 80) (k : Int32) : E0_Sw_text l D cA [.ref 50, .int (nI 1), .int 1, .int k] [(50, cSw st rc), (0, .inr (2, [.ref 1, .int ph])), (1, .inl (3, 4, .inr (.inr [some 2, some 3, some 4, some 5]))), (2, cFl 6 7 (ch 0) (cp 0) (sh 0) (sp 0) (ha 0) (lv 0)), (3, cFl 8 9 (ch 1) (cp 1) (sh 1) (sp 1) (ha 1) (lv 1)), (4, cFl 10 11 (ch 2) (cp 2) (sh 2) (sp 2) (ha 2) (lv 2)), (5, cFl 12 13 (ch 3) (cp 3) (sh 3) (sp 3) (ha 3) (lv 3)), (6, cSm 14 15 (ts 0) (hs 0) (nx 0) (rr 0) (bg 0) (en 0)), (14, cIs 80 (tx 0)), (15, cIs 32 (hd 0)), (7, cSm 16 17 (ts 1) (hs 1) (nx 1) (rr 1) (bg 1) (en 1)), (16, cIs 80 (tx 1)), (17, cIs 32 (hd 1)), (8, cSm 18 19 (ts 2) (hs 2) (nx 2) (rr 2) (bg 2) (en 2)), (18, cIs 80 (tx 2)), (19, cIs 32 (hd 2)), (9, cSm 20 21 (ts 3) (hs 3) (nx 3) (rr 3) (bg 3) (en 3)), (20, cIs 80 (tx 3)), (21, cIs 32 (hd 3)), (10, cSm 22 23 (ts 4) (hs 4) (nx 4) (rr 4) (bg 4) (en 4)), (22, cIs 80 (tx 4)), (23, cIs 32 (hd 4)), (11, cSm 24 25 (ts 5) (hs 5) (nx 5) (rr 5) (bg 5) (en 5)), (24, cIs 80 (tx 5)), (25, cIs 32 (hd 5)), (12, cSm 26 27 (ts 6) (hs 6) (nx 6) (rr 6) (bg 6) (en 6)), (26, cIs 80 (tx 6)), (27, cIs 32 (hd 6)), (13, cSm 28 29 (ts 7) (hs 7) (nx 7) (rr 7) (bg 7) (en 7)), (28, cIs 80 (tx 7)), (29, cIs 32 (hd 7))] (some (.int (sAt (tx 3) (ts 3) k))) [(50, cSw st rc), (0, .inr (2, [.ref 1, .int ph])), (1, .inl (3, 4, .inr (.inr [some 2, some 3, some 4, some 5]))), (2, cFl 6 7 (ch 0) (cp 0) (sh 0) (sp 0) (ha 0) (lv 0)), (3, cFl 8 9 (ch 1) (cp 1) (sh 1) (sp 1) (ha 1) (lv 1)), (4, cFl 10 11 (ch 2) (cp 2) (sh 2) (sp 2) (ha 2) (lv 2)), (5, cFl 12 13 (ch 3) (cp 3) (sh 3) (sp 3) (ha 3) (lv 3)), (6, cSm 14 15 (ts 0) (hs 0) (nx 0) (rr 0) (bg 0) (en 0)), (14, cIs 80 (tx 0)), (15, cIs 32 (hd 0)), (7, cSm 16 17 (ts 1) (hs 1) (nx 1) (rr 1) (bg 1) (en 1)), (16, cIs 80 (tx 1)), (17, cIs 32 (hd 1)), (8, cSm 18 19 (ts 2) (hs 2) (nx 2) (rr 2) (bg 2) (en 2)), (18, cIs 80 (tx 2)), (19, cIs 32 (hd 2)), (9, cSm 20 21 (ts 3) (hs 3) (nx 3) (rr 3) (bg 3) (en 3)), (20, cIs 80 (tx 3)), (21, cIs 32 (hd 3)), (10, cSm 22 23 (ts 4) (hs 4) (nx 4) (rr 4) (bg 4) (en 4)), (22, cIs 80 (tx 4)), (23, cIs 32 (hd 4)), (11, cSm 24 25 (ts 5) (hs 5) (nx 5) (rr 5) (bg 5) (en 5)), (24, cIs 80 (tx 5)), (25, cIs 32 (hd 5)), (12, cSm 26 27 (ts 6) (hs 6) (nx 6) (rr 6) (bg 6) (en 6)), (26, cIs 80 (tx 6)), (27, cIs 32 (hd 6)), (13, cSm 28 29 (ts 7) (hs 7) (nx 7) (rr 7) (bg 7) (en 7)), (28, cIs 80 (tx 7)), (29, cIs 32 (hd 7))] := by
  refine mj_ev (lv := [(0, .ref 50), (1, .int (nI 1)), (2, .int 1), (3, .int k)]) (by decide +kernel) (Nat.le_of_ble_eq_true rfl) rfl (fun X h => ?_)
  refine mj_blk h.1 b_Sw_text_0 rfl trivial ?_
  refine mj_callV h zGood (ev_Sw_streamAt_1_1 l D cA _ _ _ _ _ _ _ _ _ hl) v_Sw_streamAt l_Sw_text_3 d_Sw_text_3 rfl ⟨by decide, by decide⟩ ⟨by decide, by decide⟩ [(50, 50), (51, 51), (40, 40), (53, 53), (60, 60), (70, 70), (0, 0), (1, 1), (2, 2), (3, 3), (4, 4), (5, 5), (6, 6), (7, 7), (8, 8), (9, 9), (10, 10), (11, 11), (12, 12), (13, 13)] rfl rfl rfl rfl rfl rfl (Nat.le_of_ble_eq_true rfl) ?_
  rintro _ _ ⟨rfl, rfl⟩
  refine mj_k rfl rfl ?_
  refine mj_blk h.1 b_Sw_text_6 rfl trivial ?_
  refine mj_ifnonnull_r h.1 d_Sw_text_10 (tgt := 17) (by decide) ?_
  refine mj_blk h.1 b_Sw_text_17 rfl trivial ?_
  refine mj_callV h zGood (ev_Sm_byteAt l D cA _ _ _ _ _ _ _ _ ht _) v_Sm_byteAt l_Sw_text_20 d_Sw_text_20 rfl ⟨by decide, by decide⟩ ⟨by decide, by decide⟩ [(0, 9), (1, 20), (2, 21)] rfl rfl rfl rfl rfl rfl (Nat.le_of_ble_eq_true rfl) ?_
  rintro _ _ ⟨rfl, rfl⟩
  refine mj_k rfl rfl ?_
  exact mj_iret h rfl d_Sw_text_23 (by decide) (by decide) ⟨rfl, rfl⟩
set_option maxRecDepth 100000 in
set_option maxHeartbeats 4000000 in
theorem ev_Sw_stream_2_0 (hl : lv 2 = true) (w : Int32) : E0_Sw_stream l D cA [.ref 50, .int (nI 2), .int 0, .int w] [(50, cSw st rc), (0, .inr (2, [.ref 1, .int ph])), (1, .inl (3, 4, .inr (.inr [some 2, some 3, some 4, some 5]))), (2, cFl 6 7 (ch 0) (cp 0) (sh 0) (sp 0) (ha 0) (lv 0)), (3, cFl 8 9 (ch 1) (cp 1) (sh 1) (sp 1) (ha 1) (lv 1)), (4, cFl 10 11 (ch 2) (cp 2) (sh 2) (sp 2) (ha 2) (lv 2)), (5, cFl 12 13 (ch 3) (cp 3) (sh 3) (sp 3) (ha 3) (lv 3)), (6, cSm 14 15 (ts 0) (hs 0) (nx 0) (rr 0) (bg 0) (en 0)), (14, cIs 80 (tx 0)), (15, cIs 32 (hd 0)), (7, cSm 16 17 (ts 1) (hs 1) (nx 1) (rr 1) (bg 1) (en 1)), (16, cIs 80 (tx 1)), (17, cIs 32 (hd 1)), (8, cSm 18 19 (ts 2) (hs 2) (nx 2) (rr 2) (bg 2) (en 2)), (18, cIs 80 (tx 2)), (19, cIs 32 (hd 2)), (9, cSm 20 21 (ts 3) (hs 3) (nx 3) (rr 3) (bg 3) (en 3)), (20, cIs 80 (tx 3)), (21, cIs 32 (hd 3)), (10, cSm 22 23 (ts 4) (hs 4) (nx 4) (rr 4) (bg 4) (en 4)), (22, cIs 80 (tx 4)), (23, cIs 32 (hd 4)), (11, cSm 24 25 (ts 5) (hs 5) (nx 5) (rr 5) (bg 5) (en 5)), (24, cIs 80 (tx 5)), (25, cIs 32 (hd 5)), (12, cSm 26 27 (ts 6) (hs 6) (nx 6) (rr 6) (bg 6) (en 6)), (26, cIs 80 (tx 6)), (27, cIs 32 (hd 6)), (13, cSm 28 29 (ts 7) (hs 7) (nx 7) (rr 7) (bg 7) (en 7)), (28, cIs 80 (tx 7)), (29, cIs 32 (hd 7))] (some (.int (qStr ts hs nx en 4 w))) [(50, cSw st rc), (0, .inr (2, [.ref 1, .int ph])), (1, .inl (3, 4, .inr (.inr [some 2, some 3, some 4, some 5]))), (2, cFl 6 7 (ch 0) (cp 0) (sh 0) (sp 0) (ha 0) (lv 0)), (3, cFl 8 9 (ch 1) (cp 1) (sh 1) (sp 1) (ha 1) (lv 1)), (4, cFl 10 11 (ch 2) (cp 2) (sh 2) (sp 2) (ha 2) (lv 2)), (5, cFl 12 13 (ch 3) (cp 3) (sh 3) (sp 3) (ha 3) (lv 3)), (6, cSm 14 15 (ts 0) (hs 0) (nx 0) (rr 0) (bg 0) (en 0)), (14, cIs 80 (tx 0)), (15, cIs 32 (hd 0)), (7, cSm 16 17 (ts 1) (hs 1) (nx 1) (rr 1) (bg 1) (en 1)), (16, cIs 80 (tx 1)), (17, cIs 32 (hd 1)), (8, cSm 18 19 (ts 2) (hs 2) (nx 2) (rr 2) (bg 2) (en 2)), (18, cIs 80 (tx 2)), (19, cIs 32 (hd 2)), (9, cSm 20 21 (ts 3) (hs 3) (nx 3) (rr 3) (bg 3) (en 3)), (20, cIs 80 (tx 3)), (21, cIs 32 (hd 3)), (10, cSm 22 23 (ts 4) (hs 4) (nx 4) (rr 4) (bg 4) (en 4)), (22, cIs 80 (tx 4)), (23, cIs 32 (hd 4)), (11, cSm 24 25 (ts 5) (hs 5) (nx 5) (rr 5) (bg 5) (en 5)), (24, cIs 80 (tx 5)), (25, cIs 32 (hd 5)), (12, cSm 26 27 (ts 6) (hs 6) (nx 6) (rr 6) (bg 6) (en 6)), (26, cIs 80 (tx 6)), (27, cIs 32 (hd 6)), (13, cSm 28 29 (ts 7) (hs 7) (nx 7) (rr 7) (bg 7) (en 7)), (28, cIs 80 (tx 7)), (29, cIs 32 (hd 7))] := by
  refine mj_ev (lv := [(0, .ref 50), (1, .int (nI 2)), (2, .int 0), (3, .int w)]) (by decide +kernel) (Nat.le_of_ble_eq_true rfl) rfl (fun X h => ?_)
  refine mj_blk h.1 b_Sw_stream_0 rfl trivial ?_
  refine mj_callV h zGood (ev_Sw_streamAt_2_0 l D cA _ _ _ _ _ _ _ _ _ hl) v_Sw_streamAt l_Sw_stream_3 d_Sw_stream_3 rfl ⟨by decide, by decide⟩ ⟨by decide, by decide⟩ [(50, 50), (51, 51), (40, 40), (53, 53), (60, 60), (70, 70), (0, 0), (1, 1), (2, 2), (3, 3), (4, 4), (5, 5), (6, 6), (7, 7), (8, 8), (9, 9), (10, 10), (11, 11), (12, 12), (13, 13)] rfl rfl rfl rfl rfl rfl (Nat.le_of_ble_eq_true rfl) ?_
  rintro _ _ ⟨rfl, rfl⟩
  refine mj_k rfl rfl ?_
  refine mj_blk h.1 b_Sw_stream_6 rfl trivial ?_
  refine mj_ifnonnull_r h.1 d_Sw_stream_10 (tgt := 15) (by decide) ?_
  refine mj_blk h.1 b_Sw_stream_15 rfl trivial ?_
  rcases mj_sw3 w with rfl | rfl | rfl | rfl | hsw
  · refine mj_tswIn h.1 d_Sw_stream_16 (by decide) (by decide) (off := 32) (by decide) (tgt := 48) (by decide) ?_
    refine mj_blk h.1 b_Sw_stream_48 rfl trivial ?_
    refine mj_callV h zGood (ev_Sm_size l D cA _ _ _ _ _ _ _ _) v_Sm_size l_Sw_stream_50 d_Sw_stream_50 rfl ⟨by decide, by decide⟩ ⟨by decide, by decide⟩ [(0, 10), (1, 22), (2, 23)] rfl rfl rfl rfl rfl rfl (Nat.le_of_ble_eq_true rfl) ?_
    rintro _ _ ⟨rfl, rfl⟩
    refine mj_k rfl rfl ?_
    exact mj_iret h rfl d_Sw_stream_53 (by decide) (by decide) ⟨rfl, rfl⟩
  · refine mj_tswIn h.1 d_Sw_stream_16 (by decide) (by decide) (off := 38) (by decide) (tgt := 54) (by decide) ?_
    refine mj_blk h.1 b_Sw_stream_54 rfl trivial ?_
    refine mj_callV h zGood (ev_Sm_next l D cA _ _ _ _ _ _ _ _) v_Sm_next l_Sw_stream_56 d_Sw_stream_56 rfl ⟨by decide, by decide⟩ ⟨by decide, by decide⟩ [(0, 10), (1, 22), (2, 23)] rfl rfl rfl rfl rfl rfl (Nat.le_of_ble_eq_true rfl) ?_
    rintro _ _ ⟨rfl, rfl⟩
    refine mj_k rfl rfl ?_
    exact mj_iret h rfl d_Sw_stream_59 (by decide) (by decide) ⟨rfl, rfl⟩
  · refine mj_tswIn h.1 d_Sw_stream_16 (by decide) (by decide) (off := 44) (by decide) (tgt := 60) (by decide) ?_
    refine mj_blk h.1 b_Sw_stream_60 rfl trivial ?_
    refine mj_callV h zGood (ev_Sm_heldCount l D cA _ _ _ _ _ _ _ _) v_Sm_heldCount l_Sw_stream_62 d_Sw_stream_62 rfl ⟨by decide, by decide⟩ ⟨by decide, by decide⟩ [(0, 10), (1, 22), (2, 23)] rfl rfl rfl rfl rfl rfl (Nat.le_of_ble_eq_true rfl) ?_
    rintro _ _ ⟨rfl, rfl⟩
    refine mj_k rfl rfl ?_
    exact mj_iret h rfl d_Sw_stream_65 (by decide) (by decide) ⟨rfl, rfl⟩
  · refine mj_tswIn h.1 d_Sw_stream_16 (by decide) (by decide) (off := 50) (by decide) (tgt := 66) (by decide) ?_
    refine mj_blk h.1 b_Sw_stream_66 rfl trivial ?_
    refine mj_callV h zGood (ev_Sm_hasEnded l D cA _ _ _ _ _ _ _ _) v_Sm_hasEnded l_Sw_stream_68 d_Sw_stream_68 rfl ⟨by decide, by decide⟩ ⟨by decide, by decide⟩ [(0, 10), (1, 22), (2, 23)] rfl rfl rfl rfl rfl rfl (Nat.le_of_ble_eq_true rfl) ?_
    rintro _ _ ⟨rfl, rfl⟩
    refine mj_k rfl rfl ?_
    first | refine mj_ifeqB h.1 (tgt := 78) d_Sw_stream_71 (by decide) (fun h1 => ?_) (fun h1 => ?_) | refine mj_ifeq h.1 (tgt := 78) d_Sw_stream_71 (by decide) (fun h1 => ?_) (fun h1 => ?_)
    · refine mj_blk h.1 b_Sw_stream_78 rfl trivial ?_
      exact mj_iret h rfl d_Sw_stream_79 (by decide) (by decide) ⟨by show some (Value.int _) = some (Value.int (if en 4 = true then 1 else 0)); rw [if_neg h1], rfl⟩
    · refine mj_blk h.1 b_Sw_stream_74 rfl trivial ?_
      exact mj_iret h rfl d_Sw_stream_79 (by decide) (by decide) ⟨by show some (Value.int _) = some (Value.int (if en 4 = true then 1 else 0)); rw [if_pos h1], rfl⟩
  · refine mj_tswOut h.1 d_Sw_stream_16 hsw (tgt := 80) (by decide) ?_
    refine mj_blk h.1 b_Sw_stream_80 rfl trivial ?_
    exact mj_iret h rfl d_Sw_stream_81 (by decide) (by decide) ⟨by unfold qStr; rw [if_neg (show ¬ w = 0 from mj_out3 hsw 0 (by decide)), if_neg (show ¬ w = 1 from mj_out3 hsw 1 (by decide)), if_neg (show ¬ w = 2 from mj_out3 hsw 2 (by decide)), if_neg (show ¬ w = 3 from mj_out3 hsw 3 (by decide))], rfl⟩
set_option maxRecDepth 100000 in
set_option maxHeartbeats 4000000 in
theorem ev_Sw_text_2_0 (hl : lv 2 = true) (ht : ts 4 ≤ 80) (k : Int32) : E0_Sw_text l D cA [.ref 50, .int (nI 2), .int 0, .int k] [(50, cSw st rc), (0, .inr (2, [.ref 1, .int ph])), (1, .inl (3, 4, .inr (.inr [some 2, some 3, some 4, some 5]))), (2, cFl 6 7 (ch 0) (cp 0) (sh 0) (sp 0) (ha 0) (lv 0)), (3, cFl 8 9 (ch 1) (cp 1) (sh 1) (sp 1) (ha 1) (lv 1)), (4, cFl 10 11 (ch 2) (cp 2) (sh 2) (sp 2) (ha 2) (lv 2)), (5, cFl 12 13 (ch 3) (cp 3) (sh 3) (sp 3) (ha 3) (lv 3)), (6, cSm 14 15 (ts 0) (hs 0) (nx 0) (rr 0) (bg 0) (en 0)), (14, cIs 80 (tx 0)), (15, cIs 32 (hd 0)), (7, cSm 16 17 (ts 1) (hs 1) (nx 1) (rr 1) (bg 1) (en 1)), (16, cIs 80 (tx 1)), (17, cIs 32 (hd 1)), (8, cSm 18 19 (ts 2) (hs 2) (nx 2) (rr 2) (bg 2) (en 2)), (18, cIs 80 (tx 2)), (19, cIs 32 (hd 2)), (9, cSm 20 21 (ts 3) (hs 3) (nx 3) (rr 3) (bg 3) (en 3)), (20, cIs 80 (tx 3)), (21, cIs 32 (hd 3)), (10, cSm 22 23 (ts 4) (hs 4) (nx 4) (rr 4) (bg 4) (en 4)), (22, cIs 80 (tx 4)), (23, cIs 32 (hd 4)), (11, cSm 24 25 (ts 5) (hs 5) (nx 5) (rr 5) (bg 5) (en 5)), (24, cIs 80 (tx 5)), (25, cIs 32 (hd 5)), (12, cSm 26 27 (ts 6) (hs 6) (nx 6) (rr 6) (bg 6) (en 6)), (26, cIs 80 (tx 6)), (27, cIs 32 (hd 6)), (13, cSm 28 29 (ts 7) (hs 7) (nx 7) (rr 7) (bg 7) (en 7)), (28, cIs 80 (tx 7)), (29, cIs 32 (hd 7))] (some (.int (sAt (tx 4) (ts 4) k))) [(50, cSw st rc), (0, .inr (2, [.ref 1, .int ph])), (1, .inl (3, 4, .inr (.inr [some 2, some 3, some 4, some 5]))), (2, cFl 6 7 (ch 0) (cp 0) (sh 0) (sp 0) (ha 0) (lv 0)), (3, cFl 8 9 (ch 1) (cp 1) (sh 1) (sp 1) (ha 1) (lv 1)), (4, cFl 10 11 (ch 2) (cp 2) (sh 2) (sp 2) (ha 2) (lv 2)), (5, cFl 12 13 (ch 3) (cp 3) (sh 3) (sp 3) (ha 3) (lv 3)), (6, cSm 14 15 (ts 0) (hs 0) (nx 0) (rr 0) (bg 0) (en 0)), (14, cIs 80 (tx 0)), (15, cIs 32 (hd 0)), (7, cSm 16 17 (ts 1) (hs 1) (nx 1) (rr 1) (bg 1) (en 1)), (16, cIs 80 (tx 1)), (17, cIs 32 (hd 1)), (8, cSm 18 19 (ts 2) (hs 2) (nx 2) (rr 2) (bg 2) (en 2)), (18, cIs 80 (tx 2)), (19, cIs 32 (hd 2)), (9, cSm 20 21 (ts 3) (hs 3) (nx 3) (rr 3) (bg 3) (en 3)), (20, cIs 80 (tx 3)), (21, cIs 32 (hd 3)), (10, cSm 22 23 (ts 4) (hs 4) (nx 4) (rr 4) (bg 4) (en 4)), (22, cIs 80 (tx 4)), (23, cIs 32 (hd 4)), (11, cSm 24 25 (ts 5) (hs 5) (nx 5) (rr 5) (bg 5) (en 5)), (24, cIs 80 (tx 5)), (25, cIs 32 (hd 5)), (12, cSm 26 27 (ts 6) (hs 6) (nx 6) (rr 6) (bg 6) (en 6)), (26, cIs 80 (tx 6)), (27, cIs 32 (hd 6)), (13, cSm 28 29 (ts 7) (hs 7) (nx 7) (rr 7) (bg 7) (en 7)), (28, cIs 80 (tx 7)), (29, cIs 32 (hd 7))] := by
  refine mj_ev (lv := [(0, .ref 50), (1, .int (nI 2)), (2, .int 0), (3, .int k)]) (by decide +kernel) (Nat.le_of_ble_eq_true rfl) rfl (fun X h => ?_)
  refine mj_blk h.1 b_Sw_text_0 rfl trivial ?_
  refine mj_callV h zGood (ev_Sw_streamAt_2_0 l D cA _ _ _ _ _ _ _ _ _ hl) v_Sw_streamAt l_Sw_text_3 d_Sw_text_3 rfl ⟨by decide, by decide⟩ ⟨by decide, by decide⟩ [(50, 50), (51, 51), (40, 40), (53, 53), (60, 60), (70, 70), (0, 0), (1, 1), (2, 2), (3, 3), (4, 4), (5, 5), (6, 6), (7, 7), (8, 8), (9, 9), (10, 10), (11, 11), (12, 12), (13, 13)] rfl rfl rfl rfl rfl rfl (Nat.le_of_ble_eq_true rfl) ?_
  rintro _ _ ⟨rfl, rfl⟩
  refine mj_k rfl rfl ?_
  refine mj_blk h.1 b_Sw_text_6 rfl trivial ?_
  refine mj_ifnonnull_r h.1 d_Sw_text_10 (tgt := 17) (by decide) ?_
  refine mj_blk h.1 b_Sw_text_17 rfl trivial ?_
  refine mj_callV h zGood (ev_Sm_byteAt l D cA _ _ _ _ _ _ _ _ ht _) v_Sm_byteAt l_Sw_text_20 d_Sw_text_20 rfl ⟨by decide, by decide⟩ ⟨by decide, by decide⟩ [(0, 10), (1, 22), (2, 23)] rfl rfl rfl rfl rfl rfl (Nat.le_of_ble_eq_true rfl) ?_
  rintro _ _ ⟨rfl, rfl⟩
  refine mj_k rfl rfl ?_
  exact mj_iret h rfl d_Sw_text_23 (by decide) (by decide) ⟨rfl, rfl⟩
set_option maxRecDepth 100000 in
set_option maxHeartbeats 4000000 in
theorem ev_Sw_stream_2_1 (hl : lv 2 = true) (w : Int32) : E0_Sw_stream l D cA [.ref 50, .int (nI 2), .int 1, .int w] [(50, cSw st rc), (0, .inr (2, [.ref 1, .int ph])), (1, .inl (3, 4, .inr (.inr [some 2, some 3, some 4, some 5]))), (2, cFl 6 7 (ch 0) (cp 0) (sh 0) (sp 0) (ha 0) (lv 0)), (3, cFl 8 9 (ch 1) (cp 1) (sh 1) (sp 1) (ha 1) (lv 1)), (4, cFl 10 11 (ch 2) (cp 2) (sh 2) (sp 2) (ha 2) (lv 2)), (5, cFl 12 13 (ch 3) (cp 3) (sh 3) (sp 3) (ha 3) (lv 3)), (6, cSm 14 15 (ts 0) (hs 0) (nx 0) (rr 0) (bg 0) (en 0)), (14, cIs 80 (tx 0)), (15, cIs 32 (hd 0)), (7, cSm 16 17 (ts 1) (hs 1) (nx 1) (rr 1) (bg 1) (en 1)), (16, cIs 80 (tx 1)), (17, cIs 32 (hd 1)), (8, cSm 18 19 (ts 2) (hs 2) (nx 2) (rr 2) (bg 2) (en 2)), (18, cIs 80 (tx 2)), (19, cIs 32 (hd 2)), (9, cSm 20 21 (ts 3) (hs 3) (nx 3) (rr 3) (bg 3) (en 3)), (20, cIs 80 (tx 3)), (21, cIs 32 (hd 3)), (10, cSm 22 23 (ts 4) (hs 4) (nx 4) (rr 4) (bg 4) (en 4)), (22, cIs 80 (tx 4)), (23, cIs 32 (hd 4)), (11, cSm 24 25 (ts 5) (hs 5) (nx 5) (rr 5) (bg 5) (en 5)), (24, cIs 80 (tx 5)), (25, cIs 32 (hd 5)), (12, cSm 26 27 (ts 6) (hs 6) (nx 6) (rr 6) (bg 6) (en 6)), (26, cIs 80 (tx 6)), (27, cIs 32 (hd 6)), (13, cSm 28 29 (ts 7) (hs 7) (nx 7) (rr 7) (bg 7) (en 7)), (28, cIs 80 (tx 7)), (29, cIs 32 (hd 7))] (some (.int (qStr ts hs nx en 5 w))) [(50, cSw st rc), (0, .inr (2, [.ref 1, .int ph])), (1, .inl (3, 4, .inr (.inr [some 2, some 3, some 4, some 5]))), (2, cFl 6 7 (ch 0) (cp 0) (sh 0) (sp 0) (ha 0) (lv 0)), (3, cFl 8 9 (ch 1) (cp 1) (sh 1) (sp 1) (ha 1) (lv 1)), (4, cFl 10 11 (ch 2) (cp 2) (sh 2) (sp 2) (ha 2) (lv 2)), (5, cFl 12 13 (ch 3) (cp 3) (sh 3) (sp 3) (ha 3) (lv 3)), (6, cSm 14 15 (ts 0) (hs 0) (nx 0) (rr 0) (bg 0) (en 0)), (14, cIs 80 (tx 0)), (15, cIs 32 (hd 0)), (7, cSm 16 17 (ts 1) (hs 1) (nx 1) (rr 1) (bg 1) (en 1)), (16, cIs 80 (tx 1)), (17, cIs 32 (hd 1)), (8, cSm 18 19 (ts 2) (hs 2) (nx 2) (rr 2) (bg 2) (en 2)), (18, cIs 80 (tx 2)), (19, cIs 32 (hd 2)), (9, cSm 20 21 (ts 3) (hs 3) (nx 3) (rr 3) (bg 3) (en 3)), (20, cIs 80 (tx 3)), (21, cIs 32 (hd 3)), (10, cSm 22 23 (ts 4) (hs 4) (nx 4) (rr 4) (bg 4) (en 4)), (22, cIs 80 (tx 4)), (23, cIs 32 (hd 4)), (11, cSm 24 25 (ts 5) (hs 5) (nx 5) (rr 5) (bg 5) (en 5)), (24, cIs 80 (tx 5)), (25, cIs 32 (hd 5)), (12, cSm 26 27 (ts 6) (hs 6) (nx 6) (rr 6) (bg 6) (en 6)), (26, cIs 80 (tx 6)), (27, cIs 32 (hd 6)), (13, cSm 28 29 (ts 7) (hs 7) (nx 7) (rr 7) (bg 7) (en 7)), (28, cIs 80 (tx 7)), (29, cIs 32 (hd 7))] := by
  refine mj_ev (lv := [(0, .ref 50), (1, .int (nI 2)), (2, .int 1), (3, .int w)]) (by decide +kernel) (Nat.le_of_ble_eq_true rfl) rfl (fun X h => ?_)
  refine mj_blk h.1 b_Sw_stream_0 rfl trivial ?_
  refine mj_callV h zGood (ev_Sw_streamAt_2_1 l D cA _ _ _ _ _ _ _ _ _ hl) v_Sw_streamAt l_Sw_stream_3 d_Sw_stream_3 rfl ⟨by decide, by decide⟩ ⟨by decide, by decide⟩ [(50, 50), (51, 51), (40, 40), (53, 53), (60, 60), (70, 70), (0, 0), (1, 1), (2, 2), (3, 3), (4, 4), (5, 5), (6, 6), (7, 7), (8, 8), (9, 9), (10, 10), (11, 11), (12, 12), (13, 13)] rfl rfl rfl rfl rfl rfl (Nat.le_of_ble_eq_true rfl) ?_
  rintro _ _ ⟨rfl, rfl⟩
  refine mj_k rfl rfl ?_
  refine mj_blk h.1 b_Sw_stream_6 rfl trivial ?_
  refine mj_ifnonnull_r h.1 d_Sw_stream_10 (tgt := 15) (by decide) ?_
  refine mj_blk h.1 b_Sw_stream_15 rfl trivial ?_
  rcases mj_sw3 w with rfl | rfl | rfl | rfl | hsw
  · refine mj_tswIn h.1 d_Sw_stream_16 (by decide) (by decide) (off := 32) (by decide) (tgt := 48) (by decide) ?_
    refine mj_blk h.1 b_Sw_stream_48 rfl trivial ?_
    refine mj_callV h zGood (ev_Sm_size l D cA _ _ _ _ _ _ _ _) v_Sm_size l_Sw_stream_50 d_Sw_stream_50 rfl ⟨by decide, by decide⟩ ⟨by decide, by decide⟩ [(0, 11), (1, 24), (2, 25)] rfl rfl rfl rfl rfl rfl (Nat.le_of_ble_eq_true rfl) ?_
    rintro _ _ ⟨rfl, rfl⟩
    refine mj_k rfl rfl ?_
    exact mj_iret h rfl d_Sw_stream_53 (by decide) (by decide) ⟨rfl, rfl⟩
  · refine mj_tswIn h.1 d_Sw_stream_16 (by decide) (by decide) (off := 38) (by decide) (tgt := 54) (by decide) ?_
    refine mj_blk h.1 b_Sw_stream_54 rfl trivial ?_
    refine mj_callV h zGood (ev_Sm_next l D cA _ _ _ _ _ _ _ _) v_Sm_next l_Sw_stream_56 d_Sw_stream_56 rfl ⟨by decide, by decide⟩ ⟨by decide, by decide⟩ [(0, 11), (1, 24), (2, 25)] rfl rfl rfl rfl rfl rfl (Nat.le_of_ble_eq_true rfl) ?_
    rintro _ _ ⟨rfl, rfl⟩
    refine mj_k rfl rfl ?_
    exact mj_iret h rfl d_Sw_stream_59 (by decide) (by decide) ⟨rfl, rfl⟩
  · refine mj_tswIn h.1 d_Sw_stream_16 (by decide) (by decide) (off := 44) (by decide) (tgt := 60) (by decide) ?_
    refine mj_blk h.1 b_Sw_stream_60 rfl trivial ?_
    refine mj_callV h zGood (ev_Sm_heldCount l D cA _ _ _ _ _ _ _ _) v_Sm_heldCount l_Sw_stream_62 d_Sw_stream_62 rfl ⟨by decide, by decide⟩ ⟨by decide, by decide⟩ [(0, 11), (1, 24), (2, 25)] rfl rfl rfl rfl rfl rfl (Nat.le_of_ble_eq_true rfl) ?_
    rintro _ _ ⟨rfl, rfl⟩
    refine mj_k rfl rfl ?_
    exact mj_iret h rfl d_Sw_stream_65 (by decide) (by decide) ⟨rfl, rfl⟩
  · refine mj_tswIn h.1 d_Sw_stream_16 (by decide) (by decide) (off := 50) (by decide) (tgt := 66) (by decide) ?_
    refine mj_blk h.1 b_Sw_stream_66 rfl trivial ?_
    refine mj_callV h zGood (ev_Sm_hasEnded l D cA _ _ _ _ _ _ _ _) v_Sm_hasEnded l_Sw_stream_68 d_Sw_stream_68 rfl ⟨by decide, by decide⟩ ⟨by decide, by decide⟩ [(0, 11), (1, 24), (2, 25)] rfl rfl rfl rfl rfl rfl (Nat.le_of_ble_eq_true rfl) ?_
    rintro _ _ ⟨rfl, rfl⟩
    refine mj_k rfl rfl ?_
    first | refine mj_ifeqB h.1 (tgt := 78) d_Sw_stream_71 (by decide) (fun h1 => ?_) (fun h1 => ?_) | refine mj_ifeq h.1 (tgt := 78) d_Sw_stream_71 (by decide) (fun h1 => ?_) (fun h1 => ?_)
    · refine mj_blk h.1 b_Sw_stream_78 rfl trivial ?_
      exact mj_iret h rfl d_Sw_stream_79 (by decide) (by decide) ⟨by show some (Value.int _) = some (Value.int (if en 5 = true then 1 else 0)); rw [if_neg h1], rfl⟩
    · refine mj_blk h.1 b_Sw_stream_74 rfl trivial ?_
      exact mj_iret h rfl d_Sw_stream_79 (by decide) (by decide) ⟨by show some (Value.int _) = some (Value.int (if en 5 = true then 1 else 0)); rw [if_pos h1], rfl⟩
  · refine mj_tswOut h.1 d_Sw_stream_16 hsw (tgt := 80) (by decide) ?_
    refine mj_blk h.1 b_Sw_stream_80 rfl trivial ?_
    exact mj_iret h rfl d_Sw_stream_81 (by decide) (by decide) ⟨by unfold qStr; rw [if_neg (show ¬ w = 0 from mj_out3 hsw 0 (by decide)), if_neg (show ¬ w = 1 from mj_out3 hsw 1 (by decide)), if_neg (show ¬ w = 2 from mj_out3 hsw 2 (by decide)), if_neg (show ¬ w = 3 from mj_out3 hsw 3 (by decide))], rfl⟩
set_option maxRecDepth 100000 in
set_option maxHeartbeats 4000000 in
theorem ev_Sw_text_2_1 (hl : lv 2 = true) (ht : ts 5 ≤ 80) (k : Int32) : E0_Sw_text l D cA [.ref 50, .int (nI 2), .int 1, .int k] [(50, cSw st rc), (0, .inr (2, [.ref 1, .int ph])), (1, .inl (3, 4, .inr (.inr [some 2, some 3, some 4, some 5]))), (2, cFl 6 7 (ch 0) (cp 0) (sh 0) (sp 0) (ha 0) (lv 0)), (3, cFl 8 9 (ch 1) (cp 1) (sh 1) (sp 1) (ha 1) (lv 1)), (4, cFl 10 11 (ch 2) (cp 2) (sh 2) (sp 2) (ha 2) (lv 2)), (5, cFl 12 13 (ch 3) (cp 3) (sh 3) (sp 3) (ha 3) (lv 3)), (6, cSm 14 15 (ts 0) (hs 0) (nx 0) (rr 0) (bg 0) (en 0)), (14, cIs 80 (tx 0)), (15, cIs 32 (hd 0)), (7, cSm 16 17 (ts 1) (hs 1) (nx 1) (rr 1) (bg 1) (en 1)), (16, cIs 80 (tx 1)), (17, cIs 32 (hd 1)), (8, cSm 18 19 (ts 2) (hs 2) (nx 2) (rr 2) (bg 2) (en 2)), (18, cIs 80 (tx 2)), (19, cIs 32 (hd 2)), (9, cSm 20 21 (ts 3) (hs 3) (nx 3) (rr 3) (bg 3) (en 3)), (20, cIs 80 (tx 3)), (21, cIs 32 (hd 3)), (10, cSm 22 23 (ts 4) (hs 4) (nx 4) (rr 4) (bg 4) (en 4)), (22, cIs 80 (tx 4)), (23, cIs 32 (hd 4)), (11, cSm 24 25 (ts 5) (hs 5) (nx 5) (rr 5) (bg 5) (en 5)), (24, cIs 80 (tx 5)), (25, cIs 32 (hd 5)), (12, cSm 26 27 (ts 6) (hs 6) (nx 6) (rr 6) (bg 6) (en 6)), (26, cIs 80 (tx 6)), (27, cIs 32 (hd 6)), (13, cSm 28 29 (ts 7) (hs 7) (nx 7) (rr 7) (bg 7) (en 7)), (28, cIs 80 (tx 7)), (29, cIs 32 (hd 7))] (some (.int (sAt (tx 5) (ts 5) k))) [(50, cSw st rc), (0, .inr (2, [.ref 1, .int ph])), (1, .inl (3, 4, .inr (.inr [some 2, some 3, some 4, some 5]))), (2, cFl 6 7 (ch 0) (cp 0) (sh 0) (sp 0) (ha 0) (lv 0)), (3, cFl 8 9 (ch 1) (cp 1) (sh 1) (sp 1) (ha 1) (lv 1)), (4, cFl 10 11 (ch 2) (cp 2) (sh 2) (sp 2) (ha 2) (lv 2)), (5, cFl 12 13 (ch 3) (cp 3) (sh 3) (sp 3) (ha 3) (lv 3)), (6, cSm 14 15 (ts 0) (hs 0) (nx 0) (rr 0) (bg 0) (en 0)), (14, cIs 80 (tx 0)), (15, cIs 32 (hd 0)), (7, cSm 16 17 (ts 1) (hs 1) (nx 1) (rr 1) (bg 1) (en 1)), (16, cIs 80 (tx 1)), (17, cIs 32 (hd 1)), (8, cSm 18 19 (ts 2) (hs 2) (nx 2) (rr 2) (bg 2) (en 2)), (18, cIs 80 (tx 2)), (19, cIs 32 (hd 2)), (9, cSm 20 21 (ts 3) (hs 3) (nx 3) (rr 3) (bg 3) (en 3)), (20, cIs 80 (tx 3)), (21, cIs 32 (hd 3)), (10, cSm 22 23 (ts 4) (hs 4) (nx 4) (rr 4) (bg 4) (en 4)), (22, cIs 80 (tx 4)), (23, cIs 32 (hd 4)), (11, cSm 24 25 (ts 5) (hs 5) (nx 5) (rr 5) (bg 5) (en 5)), (24, cIs 80 (tx 5)), (25, cIs 32 (hd 5)), (12, cSm 26 27 (ts 6) (hs 6) (nx 6) (rr 6) (bg 6) (en 6)), (26, cIs 80 (tx 6)), (27, cIs 32 (hd 6)), (13, cSm 28 29 (ts 7) (hs 7) (nx 7) (rr 7) (bg 7) (en 7)), (28, cIs 80 (tx 7)), (29, cIs 32 (hd 7))] := by
  refine mj_ev (lv := [(0, .ref 50), (1, .int (nI 2)), (2, .int 1), (3, .int k)]) (by decide +kernel) (Nat.le_of_ble_eq_true rfl) rfl (fun X h => ?_)
  refine mj_blk h.1 b_Sw_text_0 rfl trivial ?_
  refine mj_callV h zGood (ev_Sw_streamAt_2_1 l D cA _ _ _ _ _ _ _ _ _ hl) v_Sw_streamAt l_Sw_text_3 d_Sw_text_3 rfl ⟨by decide, by decide⟩ ⟨by decide, by decide⟩ [(50, 50), (51, 51), (40, 40), (53, 53), (60, 60), (70, 70), (0, 0), (1, 1), (2, 2), (3, 3), (4, 4), (5, 5), (6, 6), (7, 7), (8, 8), (9, 9), (10, 10), (11, 11), (12, 12), (13, 13)] rfl rfl rfl rfl rfl rfl (Nat.le_of_ble_eq_true rfl) ?_
  rintro _ _ ⟨rfl, rfl⟩
  refine mj_k rfl rfl ?_
  refine mj_blk h.1 b_Sw_text_6 rfl trivial ?_
  refine mj_ifnonnull_r h.1 d_Sw_text_10 (tgt := 17) (by decide) ?_
  refine mj_blk h.1 b_Sw_text_17 rfl trivial ?_
  refine mj_callV h zGood (ev_Sm_byteAt l D cA _ _ _ _ _ _ _ _ ht _) v_Sm_byteAt l_Sw_text_20 d_Sw_text_20 rfl ⟨by decide, by decide⟩ ⟨by decide, by decide⟩ [(0, 11), (1, 24), (2, 25)] rfl rfl rfl rfl rfl rfl (Nat.le_of_ble_eq_true rfl) ?_
  rintro _ _ ⟨rfl, rfl⟩
  refine mj_k rfl rfl ?_
  exact mj_iret h rfl d_Sw_text_23 (by decide) (by decide) ⟨rfl, rfl⟩
set_option maxRecDepth 100000 in
set_option maxHeartbeats 4000000 in
theorem ev_Sw_stream_3_0 (hl : lv 3 = true) (w : Int32) : E0_Sw_stream l D cA [.ref 50, .int (nI 3), .int 0, .int w] [(50, cSw st rc), (0, .inr (2, [.ref 1, .int ph])), (1, .inl (3, 4, .inr (.inr [some 2, some 3, some 4, some 5]))), (2, cFl 6 7 (ch 0) (cp 0) (sh 0) (sp 0) (ha 0) (lv 0)), (3, cFl 8 9 (ch 1) (cp 1) (sh 1) (sp 1) (ha 1) (lv 1)), (4, cFl 10 11 (ch 2) (cp 2) (sh 2) (sp 2) (ha 2) (lv 2)), (5, cFl 12 13 (ch 3) (cp 3) (sh 3) (sp 3) (ha 3) (lv 3)), (6, cSm 14 15 (ts 0) (hs 0) (nx 0) (rr 0) (bg 0) (en 0)), (14, cIs 80 (tx 0)), (15, cIs 32 (hd 0)), (7, cSm 16 17 (ts 1) (hs 1) (nx 1) (rr 1) (bg 1) (en 1)), (16, cIs 80 (tx 1)), (17, cIs 32 (hd 1)), (8, cSm 18 19 (ts 2) (hs 2) (nx 2) (rr 2) (bg 2) (en 2)), (18, cIs 80 (tx 2)), (19, cIs 32 (hd 2)), (9, cSm 20 21 (ts 3) (hs 3) (nx 3) (rr 3) (bg 3) (en 3)), (20, cIs 80 (tx 3)), (21, cIs 32 (hd 3)), (10, cSm 22 23 (ts 4) (hs 4) (nx 4) (rr 4) (bg 4) (en 4)), (22, cIs 80 (tx 4)), (23, cIs 32 (hd 4)), (11, cSm 24 25 (ts 5) (hs 5) (nx 5) (rr 5) (bg 5) (en 5)), (24, cIs 80 (tx 5)), (25, cIs 32 (hd 5)), (12, cSm 26 27 (ts 6) (hs 6) (nx 6) (rr 6) (bg 6) (en 6)), (26, cIs 80 (tx 6)), (27, cIs 32 (hd 6)), (13, cSm 28 29 (ts 7) (hs 7) (nx 7) (rr 7) (bg 7) (en 7)), (28, cIs 80 (tx 7)), (29, cIs 32 (hd 7))] (some (.int (qStr ts hs nx en 6 w))) [(50, cSw st rc), (0, .inr (2, [.ref 1, .int ph])), (1, .inl (3, 4, .inr (.inr [some 2, some 3, some 4, some 5]))), (2, cFl 6 7 (ch 0) (cp 0) (sh 0) (sp 0) (ha 0) (lv 0)), (3, cFl 8 9 (ch 1) (cp 1) (sh 1) (sp 1) (ha 1) (lv 1)), (4, cFl 10 11 (ch 2) (cp 2) (sh 2) (sp 2) (ha 2) (lv 2)), (5, cFl 12 13 (ch 3) (cp 3) (sh 3) (sp 3) (ha 3) (lv 3)), (6, cSm 14 15 (ts 0) (hs 0) (nx 0) (rr 0) (bg 0) (en 0)), (14, cIs 80 (tx 0)), (15, cIs 32 (hd 0)), (7, cSm 16 17 (ts 1) (hs 1) (nx 1) (rr 1) (bg 1) (en 1)), (16, cIs 80 (tx 1)), (17, cIs 32 (hd 1)), (8, cSm 18 19 (ts 2) (hs 2) (nx 2) (rr 2) (bg 2) (en 2)), (18, cIs 80 (tx 2)), (19, cIs 32 (hd 2)), (9, cSm 20 21 (ts 3) (hs 3) (nx 3) (rr 3) (bg 3) (en 3)), (20, cIs 80 (tx 3)), (21, cIs 32 (hd 3)), (10, cSm 22 23 (ts 4) (hs 4) (nx 4) (rr 4) (bg 4) (en 4)), (22, cIs 80 (tx 4)), (23, cIs 32 (hd 4)), (11, cSm 24 25 (ts 5) (hs 5) (nx 5) (rr 5) (bg 5) (en 5)), (24, cIs 80 (tx 5)), (25, cIs 32 (hd 5)), (12, cSm 26 27 (ts 6) (hs 6) (nx 6) (rr 6) (bg 6) (en 6)), (26, cIs 80 (tx 6)), (27, cIs 32 (hd 6)), (13, cSm 28 29 (ts 7) (hs 7) (nx 7) (rr 7) (bg 7) (en 7)), (28, cIs 80 (tx 7)), (29, cIs 32 (hd 7))] := by
  refine mj_ev (lv := [(0, .ref 50), (1, .int (nI 3)), (2, .int 0), (3, .int w)]) (by decide +kernel) (Nat.le_of_ble_eq_true rfl) rfl (fun X h => ?_)
  refine mj_blk h.1 b_Sw_stream_0 rfl trivial ?_
  refine mj_callV h zGood (ev_Sw_streamAt_3_0 l D cA _ _ _ _ _ _ _ _ _ hl) v_Sw_streamAt l_Sw_stream_3 d_Sw_stream_3 rfl ⟨by decide, by decide⟩ ⟨by decide, by decide⟩ [(50, 50), (51, 51), (40, 40), (53, 53), (60, 60), (70, 70), (0, 0), (1, 1), (2, 2), (3, 3), (4, 4), (5, 5), (6, 6), (7, 7), (8, 8), (9, 9), (10, 10), (11, 11), (12, 12), (13, 13)] rfl rfl rfl rfl rfl rfl (Nat.le_of_ble_eq_true rfl) ?_
  rintro _ _ ⟨rfl, rfl⟩
  refine mj_k rfl rfl ?_
  refine mj_blk h.1 b_Sw_stream_6 rfl trivial ?_
  refine mj_ifnonnull_r h.1 d_Sw_stream_10 (tgt := 15) (by decide) ?_
  refine mj_blk h.1 b_Sw_stream_15 rfl trivial ?_
  rcases mj_sw3 w with rfl | rfl | rfl | rfl | hsw
  · refine mj_tswIn h.1 d_Sw_stream_16 (by decide) (by decide) (off := 32) (by decide) (tgt := 48) (by decide) ?_
    refine mj_blk h.1 b_Sw_stream_48 rfl trivial ?_
    refine mj_callV h zGood (ev_Sm_size l D cA _ _ _ _ _ _ _ _) v_Sm_size l_Sw_stream_50 d_Sw_stream_50 rfl ⟨by decide, by decide⟩ ⟨by decide, by decide⟩ [(0, 12), (1, 26), (2, 27)] rfl rfl rfl rfl rfl rfl (Nat.le_of_ble_eq_true rfl) ?_
    rintro _ _ ⟨rfl, rfl⟩
    refine mj_k rfl rfl ?_
    exact mj_iret h rfl d_Sw_stream_53 (by decide) (by decide) ⟨rfl, rfl⟩
  · refine mj_tswIn h.1 d_Sw_stream_16 (by decide) (by decide) (off := 38) (by decide) (tgt := 54) (by decide) ?_
    refine mj_blk h.1 b_Sw_stream_54 rfl trivial ?_
    refine mj_callV h zGood (ev_Sm_next l D cA _ _ _ _ _ _ _ _) v_Sm_next l_Sw_stream_56 d_Sw_stream_56 rfl ⟨by decide, by decide⟩ ⟨by decide, by decide⟩ [(0, 12), (1, 26), (2, 27)] rfl rfl rfl rfl rfl rfl (Nat.le_of_ble_eq_true rfl) ?_
    rintro _ _ ⟨rfl, rfl⟩
    refine mj_k rfl rfl ?_
    exact mj_iret h rfl d_Sw_stream_59 (by decide) (by decide) ⟨rfl, rfl⟩
  · refine mj_tswIn h.1 d_Sw_stream_16 (by decide) (by decide) (off := 44) (by decide) (tgt := 60) (by decide) ?_
    refine mj_blk h.1 b_Sw_stream_60 rfl trivial ?_
    refine mj_callV h zGood (ev_Sm_heldCount l D cA _ _ _ _ _ _ _ _) v_Sm_heldCount l_Sw_stream_62 d_Sw_stream_62 rfl ⟨by decide, by decide⟩ ⟨by decide, by decide⟩ [(0, 12), (1, 26), (2, 27)] rfl rfl rfl rfl rfl rfl (Nat.le_of_ble_eq_true rfl) ?_
    rintro _ _ ⟨rfl, rfl⟩
    refine mj_k rfl rfl ?_
    exact mj_iret h rfl d_Sw_stream_65 (by decide) (by decide) ⟨rfl, rfl⟩
  · refine mj_tswIn h.1 d_Sw_stream_16 (by decide) (by decide) (off := 50) (by decide) (tgt := 66) (by decide) ?_
    refine mj_blk h.1 b_Sw_stream_66 rfl trivial ?_
    refine mj_callV h zGood (ev_Sm_hasEnded l D cA _ _ _ _ _ _ _ _) v_Sm_hasEnded l_Sw_stream_68 d_Sw_stream_68 rfl ⟨by decide, by decide⟩ ⟨by decide, by decide⟩ [(0, 12), (1, 26), (2, 27)] rfl rfl rfl rfl rfl rfl (Nat.le_of_ble_eq_true rfl) ?_
    rintro _ _ ⟨rfl, rfl⟩
    refine mj_k rfl rfl ?_
    first | refine mj_ifeqB h.1 (tgt := 78) d_Sw_stream_71 (by decide) (fun h1 => ?_) (fun h1 => ?_) | refine mj_ifeq h.1 (tgt := 78) d_Sw_stream_71 (by decide) (fun h1 => ?_) (fun h1 => ?_)
    · refine mj_blk h.1 b_Sw_stream_78 rfl trivial ?_
      exact mj_iret h rfl d_Sw_stream_79 (by decide) (by decide) ⟨by show some (Value.int _) = some (Value.int (if en 6 = true then 1 else 0)); rw [if_neg h1], rfl⟩
    · refine mj_blk h.1 b_Sw_stream_74 rfl trivial ?_
      exact mj_iret h rfl d_Sw_stream_79 (by decide) (by decide) ⟨by show some (Value.int _) = some (Value.int (if en 6 = true then 1 else 0)); rw [if_pos h1], rfl⟩
  · refine mj_tswOut h.1 d_Sw_stream_16 hsw (tgt := 80) (by decide) ?_
    refine mj_blk h.1 b_Sw_stream_80 rfl trivial ?_
    exact mj_iret h rfl d_Sw_stream_81 (by decide) (by decide) ⟨by unfold qStr; rw [if_neg (show ¬ w = 0 from mj_out3 hsw 0 (by decide)), if_neg (show ¬ w = 1 from mj_out3 hsw 1 (by decide)), if_neg (show ¬ w = 2 from mj_out3 hsw 2 (by decide)), if_neg (show ¬ w = 3 from mj_out3 hsw 3 (by decide))], rfl⟩
set_option maxRecDepth 100000 in
set_option maxHeartbeats 4000000 in
theorem ev_Sw_text_3_0 (hl : lv 3 = true) (ht : ts 6 ≤ 80) (k : Int32) : E0_Sw_text l D cA [.ref 50, .int (nI 3), .int 0, .int k] [(50, cSw st rc), (0, .inr (2, [.ref 1, .int ph])), (1, .inl (3, 4, .inr (.inr [some 2, some 3, some 4, some 5]))), (2, cFl 6 7 (ch 0) (cp 0) (sh 0) (sp 0) (ha 0) (lv 0)), (3, cFl 8 9 (ch 1) (cp 1) (sh 1) (sp 1) (ha 1) (lv 1)), (4, cFl 10 11 (ch 2) (cp 2) (sh 2) (sp 2) (ha 2) (lv 2)), (5, cFl 12 13 (ch 3) (cp 3) (sh 3) (sp 3) (ha 3) (lv 3)), (6, cSm 14 15 (ts 0) (hs 0) (nx 0) (rr 0) (bg 0) (en 0)), (14, cIs 80 (tx 0)), (15, cIs 32 (hd 0)), (7, cSm 16 17 (ts 1) (hs 1) (nx 1) (rr 1) (bg 1) (en 1)), (16, cIs 80 (tx 1)), (17, cIs 32 (hd 1)), (8, cSm 18 19 (ts 2) (hs 2) (nx 2) (rr 2) (bg 2) (en 2)), (18, cIs 80 (tx 2)), (19, cIs 32 (hd 2)), (9, cSm 20 21 (ts 3) (hs 3) (nx 3) (rr 3) (bg 3) (en 3)), (20, cIs 80 (tx 3)), (21, cIs 32 (hd 3)), (10, cSm 22 23 (ts 4) (hs 4) (nx 4) (rr 4) (bg 4) (en 4)), (22, cIs 80 (tx 4)), (23, cIs 32 (hd 4)), (11, cSm 24 25 (ts 5) (hs 5) (nx 5) (rr 5) (bg 5) (en 5)), (24, cIs 80 (tx 5)), (25, cIs 32 (hd 5)), (12, cSm 26 27 (ts 6) (hs 6) (nx 6) (rr 6) (bg 6) (en 6)), (26, cIs 80 (tx 6)), (27, cIs 32 (hd 6)), (13, cSm 28 29 (ts 7) (hs 7) (nx 7) (rr 7) (bg 7) (en 7)), (28, cIs 80 (tx 7)), (29, cIs 32 (hd 7))] (some (.int (sAt (tx 6) (ts 6) k))) [(50, cSw st rc), (0, .inr (2, [.ref 1, .int ph])), (1, .inl (3, 4, .inr (.inr [some 2, some 3, some 4, some 5]))), (2, cFl 6 7 (ch 0) (cp 0) (sh 0) (sp 0) (ha 0) (lv 0)), (3, cFl 8 9 (ch 1) (cp 1) (sh 1) (sp 1) (ha 1) (lv 1)), (4, cFl 10 11 (ch 2) (cp 2) (sh 2) (sp 2) (ha 2) (lv 2)), (5, cFl 12 13 (ch 3) (cp 3) (sh 3) (sp 3) (ha 3) (lv 3)), (6, cSm 14 15 (ts 0) (hs 0) (nx 0) (rr 0) (bg 0) (en 0)), (14, cIs 80 (tx 0)), (15, cIs 32 (hd 0)), (7, cSm 16 17 (ts 1) (hs 1) (nx 1) (rr 1) (bg 1) (en 1)), (16, cIs 80 (tx 1)), (17, cIs 32 (hd 1)), (8, cSm 18 19 (ts 2) (hs 2) (nx 2) (rr 2) (bg 2) (en 2)), (18, cIs 80 (tx 2)), (19, cIs 32 (hd 2)), (9, cSm 20 21 (ts 3) (hs 3) (nx 3) (rr 3) (bg 3) (en 3)), (20, cIs 80 (tx 3)), (21, cIs 32 (hd 3)), (10, cSm 22 23 (ts 4) (hs 4) (nx 4) (rr 4) (bg 4) (en 4)), (22, cIs 80 (tx 4)), (23, cIs 32 (hd 4)), (11, cSm 24 25 (ts 5) (hs 5) (nx 5) (rr 5) (bg 5) (en 5)), (24, cIs 80 (tx 5)), (25, cIs 32 (hd 5)), (12, cSm 26 27 (ts 6) (hs 6) (nx 6) (rr 6) (bg 6) (en 6)), (26, cIs 80 (tx 6)), (27, cIs 32 (hd 6)), (13, cSm 28 29 (ts 7) (hs 7) (nx 7) (rr 7) (bg 7) (en 7)), (28, cIs 80 (tx 7)), (29, cIs 32 (hd 7))] := by
  refine mj_ev (lv := [(0, .ref 50), (1, .int (nI 3)), (2, .int 0), (3, .int k)]) (by decide +kernel) (Nat.le_of_ble_eq_true rfl) rfl (fun X h => ?_)
  refine mj_blk h.1 b_Sw_text_0 rfl trivial ?_
  refine mj_callV h zGood (ev_Sw_streamAt_3_0 l D cA _ _ _ _ _ _ _ _ _ hl) v_Sw_streamAt l_Sw_text_3 d_Sw_text_3 rfl ⟨by decide, by decide⟩ ⟨by decide, by decide⟩ [(50, 50), (51, 51), (40, 40), (53, 53), (60, 60), (70, 70), (0, 0), (1, 1), (2, 2), (3, 3), (4, 4), (5, 5), (6, 6), (7, 7), (8, 8), (9, 9), (10, 10), (11, 11), (12, 12), (13, 13)] rfl rfl rfl rfl rfl rfl (Nat.le_of_ble_eq_true rfl) ?_
  rintro _ _ ⟨rfl, rfl⟩
  refine mj_k rfl rfl ?_
  refine mj_blk h.1 b_Sw_text_6 rfl trivial ?_
  refine mj_ifnonnull_r h.1 d_Sw_text_10 (tgt := 17) (by decide) ?_
  refine mj_blk h.1 b_Sw_text_17 rfl trivial ?_
  refine mj_callV h zGood (ev_Sm_byteAt l D cA _ _ _ _ _ _ _ _ ht _) v_Sm_byteAt l_Sw_text_20 d_Sw_text_20 rfl ⟨by decide, by decide⟩ ⟨by decide, by decide⟩ [(0, 12), (1, 26), (2, 27)] rfl rfl rfl rfl rfl rfl (Nat.le_of_ble_eq_true rfl) ?_
  rintro _ _ ⟨rfl, rfl⟩
  refine mj_k rfl rfl ?_
  exact mj_iret h rfl d_Sw_text_23 (by decide) (by decide) ⟨rfl, rfl⟩
set_option maxRecDepth 100000 in
set_option maxHeartbeats 4000000 in
theorem ev_Sw_stream_3_1 (hl : lv 3 = true) (w : Int32) : E0_Sw_stream l D cA [.ref 50, .int (nI 3), .int 1, .int w] [(50, cSw st rc), (0, .inr (2, [.ref 1, .int ph])), (1, .inl (3, 4, .inr (.inr [some 2, some 3, some 4, some 5]))), (2, cFl 6 7 (ch 0) (cp 0) (sh 0) (sp 0) (ha 0) (lv 0)), (3, cFl 8 9 (ch 1) (cp 1) (sh 1) (sp 1) (ha 1) (lv 1)), (4, cFl 10 11 (ch 2) (cp 2) (sh 2) (sp 2) (ha 2) (lv 2)), (5, cFl 12 13 (ch 3) (cp 3) (sh 3) (sp 3) (ha 3) (lv 3)), (6, cSm 14 15 (ts 0) (hs 0) (nx 0) (rr 0) (bg 0) (en 0)), (14, cIs 80 (tx 0)), (15, cIs 32 (hd 0)), (7, cSm 16 17 (ts 1) (hs 1) (nx 1) (rr 1) (bg 1) (en 1)), (16, cIs 80 (tx 1)), (17, cIs 32 (hd 1)), (8, cSm 18 19 (ts 2) (hs 2) (nx 2) (rr 2) (bg 2) (en 2)), (18, cIs 80 (tx 2)), (19, cIs 32 (hd 2)), (9, cSm 20 21 (ts 3) (hs 3) (nx 3) (rr 3) (bg 3) (en 3)), (20, cIs 80 (tx 3)), (21, cIs 32 (hd 3)), (10, cSm 22 23 (ts 4) (hs 4) (nx 4) (rr 4) (bg 4) (en 4)), (22, cIs 80 (tx 4)), (23, cIs 32 (hd 4)), (11, cSm 24 25 (ts 5) (hs 5) (nx 5) (rr 5) (bg 5) (en 5)), (24, cIs 80 (tx 5)), (25, cIs 32 (hd 5)), (12, cSm 26 27 (ts 6) (hs 6) (nx 6) (rr 6) (bg 6) (en 6)), (26, cIs 80 (tx 6)), (27, cIs 32 (hd 6)), (13, cSm 28 29 (ts 7) (hs 7) (nx 7) (rr 7) (bg 7) (en 7)), (28, cIs 80 (tx 7)), (29, cIs 32 (hd 7))] (some (.int (qStr ts hs nx en 7 w))) [(50, cSw st rc), (0, .inr (2, [.ref 1, .int ph])), (1, .inl (3, 4, .inr (.inr [some 2, some 3, some 4, some 5]))), (2, cFl 6 7 (ch 0) (cp 0) (sh 0) (sp 0) (ha 0) (lv 0)), (3, cFl 8 9 (ch 1) (cp 1) (sh 1) (sp 1) (ha 1) (lv 1)), (4, cFl 10 11 (ch 2) (cp 2) (sh 2) (sp 2) (ha 2) (lv 2)), (5, cFl 12 13 (ch 3) (cp 3) (sh 3) (sp 3) (ha 3) (lv 3)), (6, cSm 14 15 (ts 0) (hs 0) (nx 0) (rr 0) (bg 0) (en 0)), (14, cIs 80 (tx 0)), (15, cIs 32 (hd 0)), (7, cSm 16 17 (ts 1) (hs 1) (nx 1) (rr 1) (bg 1) (en 1)), (16, cIs 80 (tx 1)), (17, cIs 32 (hd 1)), (8, cSm 18 19 (ts 2) (hs 2) (nx 2) (rr 2) (bg 2) (en 2)), (18, cIs 80 (tx 2)), (19, cIs 32 (hd 2)), (9, cSm 20 21 (ts 3) (hs 3) (nx 3) (rr 3) (bg 3) (en 3)), (20, cIs 80 (tx 3)), (21, cIs 32 (hd 3)), (10, cSm 22 23 (ts 4) (hs 4) (nx 4) (rr 4) (bg 4) (en 4)), (22, cIs 80 (tx 4)), (23, cIs 32 (hd 4)), (11, cSm 24 25 (ts 5) (hs 5) (nx 5) (rr 5) (bg 5) (en 5)), (24, cIs 80 (tx 5)), (25, cIs 32 (hd 5)), (12, cSm 26 27 (ts 6) (hs 6) (nx 6) (rr 6) (bg 6) (en 6)), (26, cIs 80 (tx 6)), (27, cIs 32 (hd 6)), (13, cSm 28 29 (ts 7) (hs 7) (nx 7) (rr 7) (bg 7) (en 7)), (28, cIs 80 (tx 7)), (29, cIs 32 (hd 7))] := by
  refine mj_ev (lv := [(0, .ref 50), (1, .int (nI 3)), (2, .int 1), (3, .int w)]) (by decide +kernel) (Nat.le_of_ble_eq_true rfl) rfl (fun X h => ?_)
  refine mj_blk h.1 b_Sw_stream_0 rfl trivial ?_
  refine mj_callV h zGood (ev_Sw_streamAt_3_1 l D cA _ _ _ _ _ _ _ _ _ hl) v_Sw_streamAt l_Sw_stream_3 d_Sw_stream_3 rfl ⟨by decide, by decide⟩ ⟨by decide, by decide⟩ [(50, 50), (51, 51), (40, 40), (53, 53), (60, 60), (70, 70), (0, 0), (1, 1), (2, 2), (3, 3), (4, 4), (5, 5), (6, 6), (7, 7), (8, 8), (9, 9), (10, 10), (11, 11), (12, 12), (13, 13)] rfl rfl rfl rfl rfl rfl (Nat.le_of_ble_eq_true rfl) ?_
  rintro _ _ ⟨rfl, rfl⟩
  refine mj_k rfl rfl ?_
  refine mj_blk h.1 b_Sw_stream_6 rfl trivial ?_
  refine mj_ifnonnull_r h.1 d_Sw_stream_10 (tgt := 15) (by decide) ?_
  refine mj_blk h.1 b_Sw_stream_15 rfl trivial ?_
  rcases mj_sw3 w with rfl | rfl | rfl | rfl | hsw
  · refine mj_tswIn h.1 d_Sw_stream_16 (by decide) (by decide) (off := 32) (by decide) (tgt := 48) (by decide) ?_
    refine mj_blk h.1 b_Sw_stream_48 rfl trivial ?_
    refine mj_callV h zGood (ev_Sm_size l D cA _ _ _ _ _ _ _ _) v_Sm_size l_Sw_stream_50 d_Sw_stream_50 rfl ⟨by decide, by decide⟩ ⟨by decide, by decide⟩ [(0, 13), (1, 28), (2, 29)] rfl rfl rfl rfl rfl rfl (Nat.le_of_ble_eq_true rfl) ?_
    rintro _ _ ⟨rfl, rfl⟩
    refine mj_k rfl rfl ?_
    exact mj_iret h rfl d_Sw_stream_53 (by decide) (by decide) ⟨rfl, rfl⟩
  · refine mj_tswIn h.1 d_Sw_stream_16 (by decide) (by decide) (off := 38) (by decide) (tgt := 54) (by decide) ?_
    refine mj_blk h.1 b_Sw_stream_54 rfl trivial ?_
    refine mj_callV h zGood (ev_Sm_next l D cA _ _ _ _ _ _ _ _) v_Sm_next l_Sw_stream_56 d_Sw_stream_56 rfl ⟨by decide, by decide⟩ ⟨by decide, by decide⟩ [(0, 13), (1, 28), (2, 29)] rfl rfl rfl rfl rfl rfl (Nat.le_of_ble_eq_true rfl) ?_
    rintro _ _ ⟨rfl, rfl⟩
    refine mj_k rfl rfl ?_
    exact mj_iret h rfl d_Sw_stream_59 (by decide) (by decide) ⟨rfl, rfl⟩
  · refine mj_tswIn h.1 d_Sw_stream_16 (by decide) (by decide) (off := 44) (by decide) (tgt := 60) (by decide) ?_
    refine mj_blk h.1 b_Sw_stream_60 rfl trivial ?_
    refine mj_callV h zGood (ev_Sm_heldCount l D cA _ _ _ _ _ _ _ _) v_Sm_heldCount l_Sw_stream_62 d_Sw_stream_62 rfl ⟨by decide, by decide⟩ ⟨by decide, by decide⟩ [(0, 13), (1, 28), (2, 29)] rfl rfl rfl rfl rfl rfl (Nat.le_of_ble_eq_true rfl) ?_
    rintro _ _ ⟨rfl, rfl⟩
    refine mj_k rfl rfl ?_
    exact mj_iret h rfl d_Sw_stream_65 (by decide) (by decide) ⟨rfl, rfl⟩
  · refine mj_tswIn h.1 d_Sw_stream_16 (by decide) (by decide) (off := 50) (by decide) (tgt := 66) (by decide) ?_
    refine mj_blk h.1 b_Sw_stream_66 rfl trivial ?_
    refine mj_callV h zGood (ev_Sm_hasEnded l D cA _ _ _ _ _ _ _ _) v_Sm_hasEnded l_Sw_stream_68 d_Sw_stream_68 rfl ⟨by decide, by decide⟩ ⟨by decide, by decide⟩ [(0, 13), (1, 28), (2, 29)] rfl rfl rfl rfl rfl rfl (Nat.le_of_ble_eq_true rfl) ?_
    rintro _ _ ⟨rfl, rfl⟩
    refine mj_k rfl rfl ?_
    first | refine mj_ifeqB h.1 (tgt := 78) d_Sw_stream_71 (by decide) (fun h1 => ?_) (fun h1 => ?_) | refine mj_ifeq h.1 (tgt := 78) d_Sw_stream_71 (by decide) (fun h1 => ?_) (fun h1 => ?_)
    · refine mj_blk h.1 b_Sw_stream_78 rfl trivial ?_
      exact mj_iret h rfl d_Sw_stream_79 (by decide) (by decide) ⟨by show some (Value.int _) = some (Value.int (if en 7 = true then 1 else 0)); rw [if_neg h1], rfl⟩
    · refine mj_blk h.1 b_Sw_stream_74 rfl trivial ?_
      exact mj_iret h rfl d_Sw_stream_79 (by decide) (by decide) ⟨by show some (Value.int _) = some (Value.int (if en 7 = true then 1 else 0)); rw [if_pos h1], rfl⟩
  · refine mj_tswOut h.1 d_Sw_stream_16 hsw (tgt := 80) (by decide) ?_
    refine mj_blk h.1 b_Sw_stream_80 rfl trivial ?_
    exact mj_iret h rfl d_Sw_stream_81 (by decide) (by decide) ⟨by unfold qStr; rw [if_neg (show ¬ w = 0 from mj_out3 hsw 0 (by decide)), if_neg (show ¬ w = 1 from mj_out3 hsw 1 (by decide)), if_neg (show ¬ w = 2 from mj_out3 hsw 2 (by decide)), if_neg (show ¬ w = 3 from mj_out3 hsw 3 (by decide))], rfl⟩
set_option maxRecDepth 100000 in
set_option maxHeartbeats 4000000 in
theorem ev_Sw_text_3_1 (hl : lv 3 = true) (ht : ts 7 ≤ 80) (k : Int32) : E0_Sw_text l D cA [.ref 50, .int (nI 3), .int 1, .int k] [(50, cSw st rc), (0, .inr (2, [.ref 1, .int ph])), (1, .inl (3, 4, .inr (.inr [some 2, some 3, some 4, some 5]))), (2, cFl 6 7 (ch 0) (cp 0) (sh 0) (sp 0) (ha 0) (lv 0)), (3, cFl 8 9 (ch 1) (cp 1) (sh 1) (sp 1) (ha 1) (lv 1)), (4, cFl 10 11 (ch 2) (cp 2) (sh 2) (sp 2) (ha 2) (lv 2)), (5, cFl 12 13 (ch 3) (cp 3) (sh 3) (sp 3) (ha 3) (lv 3)), (6, cSm 14 15 (ts 0) (hs 0) (nx 0) (rr 0) (bg 0) (en 0)), (14, cIs 80 (tx 0)), (15, cIs 32 (hd 0)), (7, cSm 16 17 (ts 1) (hs 1) (nx 1) (rr 1) (bg 1) (en 1)), (16, cIs 80 (tx 1)), (17, cIs 32 (hd 1)), (8, cSm 18 19 (ts 2) (hs 2) (nx 2) (rr 2) (bg 2) (en 2)), (18, cIs 80 (tx 2)), (19, cIs 32 (hd 2)), (9, cSm 20 21 (ts 3) (hs 3) (nx 3) (rr 3) (bg 3) (en 3)), (20, cIs 80 (tx 3)), (21, cIs 32 (hd 3)), (10, cSm 22 23 (ts 4) (hs 4) (nx 4) (rr 4) (bg 4) (en 4)), (22, cIs 80 (tx 4)), (23, cIs 32 (hd 4)), (11, cSm 24 25 (ts 5) (hs 5) (nx 5) (rr 5) (bg 5) (en 5)), (24, cIs 80 (tx 5)), (25, cIs 32 (hd 5)), (12, cSm 26 27 (ts 6) (hs 6) (nx 6) (rr 6) (bg 6) (en 6)), (26, cIs 80 (tx 6)), (27, cIs 32 (hd 6)), (13, cSm 28 29 (ts 7) (hs 7) (nx 7) (rr 7) (bg 7) (en 7)), (28, cIs 80 (tx 7)), (29, cIs 32 (hd 7))] (some (.int (sAt (tx 7) (ts 7) k))) [(50, cSw st rc), (0, .inr (2, [.ref 1, .int ph])), (1, .inl (3, 4, .inr (.inr [some 2, some 3, some 4, some 5]))), (2, cFl 6 7 (ch 0) (cp 0) (sh 0) (sp 0) (ha 0) (lv 0)), (3, cFl 8 9 (ch 1) (cp 1) (sh 1) (sp 1) (ha 1) (lv 1)), (4, cFl 10 11 (ch 2) (cp 2) (sh 2) (sp 2) (ha 2) (lv 2)), (5, cFl 12 13 (ch 3) (cp 3) (sh 3) (sp 3) (ha 3) (lv 3)), (6, cSm 14 15 (ts 0) (hs 0) (nx 0) (rr 0) (bg 0) (en 0)), (14, cIs 80 (tx 0)), (15, cIs 32 (hd 0)), (7, cSm 16 17 (ts 1) (hs 1) (nx 1) (rr 1) (bg 1) (en 1)), (16, cIs 80 (tx 1)), (17, cIs 32 (hd 1)), (8, cSm 18 19 (ts 2) (hs 2) (nx 2) (rr 2) (bg 2) (en 2)), (18, cIs 80 (tx 2)), (19, cIs 32 (hd 2)), (9, cSm 20 21 (ts 3) (hs 3) (nx 3) (rr 3) (bg 3) (en 3)), (20, cIs 80 (tx 3)), (21, cIs 32 (hd 3)), (10, cSm 22 23 (ts 4) (hs 4) (nx 4) (rr 4) (bg 4) (en 4)), (22, cIs 80 (tx 4)), (23, cIs 32 (hd 4)), (11, cSm 24 25 (ts 5) (hs 5) (nx 5) (rr 5) (bg 5) (en 5)), (24, cIs 80 (tx 5)), (25, cIs 32 (hd 5)), (12, cSm 26 27 (ts 6) (hs 6) (nx 6) (rr 6) (bg 6) (en 6)), (26, cIs 80 (tx 6)), (27, cIs 32 (hd 6)), (13, cSm 28 29 (ts 7) (hs 7) (nx 7) (rr 7) (bg 7) (en 7)), (28, cIs 80 (tx 7)), (29, cIs 32 (hd 7))] := by
  refine mj_ev (lv := [(0, .ref 50), (1, .int (nI 3)), (2, .int 1), (3, .int k)]) (by decide +kernel) (Nat.le_of_ble_eq_true rfl) rfl (fun X h => ?_)
  refine mj_blk h.1 b_Sw_text_0 rfl trivial ?_
  refine mj_callV h zGood (ev_Sw_streamAt_3_1 l D cA _ _ _ _ _ _ _ _ _ hl) v_Sw_streamAt l_Sw_text_3 d_Sw_text_3 rfl ⟨by decide, by decide⟩ ⟨by decide, by decide⟩ [(50, 50), (51, 51), (40, 40), (53, 53), (60, 60), (70, 70), (0, 0), (1, 1), (2, 2), (3, 3), (4, 4), (5, 5), (6, 6), (7, 7), (8, 8), (9, 9), (10, 10), (11, 11), (12, 12), (13, 13)] rfl rfl rfl rfl rfl rfl (Nat.le_of_ble_eq_true rfl) ?_
  rintro _ _ ⟨rfl, rfl⟩
  refine mj_k rfl rfl ?_
  refine mj_blk h.1 b_Sw_text_6 rfl trivial ?_
  refine mj_ifnonnull_r h.1 d_Sw_text_10 (tgt := 17) (by decide) ?_
  refine mj_blk h.1 b_Sw_text_17 rfl trivial ?_
  refine mj_callV h zGood (ev_Sm_byteAt l D cA _ _ _ _ _ _ _ _ ht _) v_Sm_byteAt l_Sw_text_20 d_Sw_text_20 rfl ⟨by decide, by decide⟩ ⟨by decide, by decide⟩ [(0, 13), (1, 28), (2, 29)] rfl rfl rfl rfl rfl rfl (Nat.le_of_ble_eq_true rfl) ?_
  rintro _ _ ⟨rfl, rfl⟩
  refine mj_k rfl rfl ?_
  exact mj_iret h rfl d_Sw_text_23 (by decide) (by decide) ⟨rfl, rfl⟩
end SWB
