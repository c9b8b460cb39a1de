/-! StreamWatch.rule, option with good arguments (by program: wip/whole/src_rule.py) -/
set_option maxRecDepth 100000 in
set_option maxHeartbeats 8000000 in
theorem ev_Ru_add_0 (l : Launch) (D : va_G) (cA : Nat → ClassId) (wy pt : Int32) (nt rl : Bool) (le mo sz : Int32) (ct : Int64) (ac : Bool) : E0_Ru_add l D cA [.ref 0, .ref 2] [(0, cRu 1 wy pt 0), (1, cOs [none, none, none]), (2, cOp nt rl le mo sz ct ac)] none [(0, cRu 1 wy pt 1), (1, cOs [some 2, none, none]), (2, cOp nt rl le mo sz ct ac)] := by
  refine mj_ev (lv := [(0, .ref 0), (1, .ref 2)]) (by decide +kernel) (Nat.le_of_ble_eq_true rfl) rfl (fun X h => ?_)
  refine mj_blk h.1 b_Ru_add_0 rfl trivial ?_
  refine mj_icge h.1 (tgt := 28) d_Ru_add_5 (by decide) (fun h1 => ?_) (fun h1 => ?_)
  · exact absurd h1 (by decide)
  · refine mj_blk h.1 b_Ru_add_8 rfl trivial ?_
    refine mj_aast h.1 (r := (R_Op, T_Op, 7)) rfl rfl rfl rfl (show vp_in (nI 0) 3 from vp_in_nI (by decide) (by decide)) rfl d_Ru_add_17 rfl ?_
    refine mj_blk h.1 b_Ru_add_18 rfl trivial ?_
    exact mj_vret h rfl d_Ru_add_28 (by decide) (by decide) ⟨rfl, rfl⟩
set_option maxRecDepth 100000 in
set_option maxHeartbeats 8000000 in
theorem ev_Ru_add_1 (l : Launch) (D : va_G) (cA : Nat → ClassId) (wy pt : Int32) (nt rl : Bool) (le mo sz : Int32) (ct : Int64) (ac : Bool) : E0_Ru_add l D cA [.ref 0, .ref 3] [(0, cRu 1 wy pt 1), (1, cOs [some 2, none, none]), (3, cOp nt rl le mo sz ct ac)] none [(0, cRu 1 wy pt 2), (1, cOs [some 2, some 3, none]), (3, cOp nt rl le mo sz ct ac)] := by
  refine mj_ev (lv := [(0, .ref 0), (1, .ref 3)]) (by decide +kernel) (Nat.le_of_ble_eq_true rfl) rfl (fun X h => ?_)
  refine mj_blk h.1 b_Ru_add_0 rfl trivial ?_
  refine mj_icge h.1 (tgt := 28) d_Ru_add_5 (by decide) (fun h1 => ?_) (fun h1 => ?_)
  · exact absurd h1 (by decide)
  · refine mj_blk h.1 b_Ru_add_8 rfl trivial ?_
    refine mj_aast h.1 (r := (R_Op, T_Op, 7)) rfl rfl rfl rfl (show vp_in (nI 1) 3 from vp_in_nI (by decide) (by decide)) rfl d_Ru_add_17 rfl ?_
    refine mj_blk h.1 b_Ru_add_18 rfl trivial ?_
    exact mj_vret h rfl d_Ru_add_28 (by decide) (by decide) ⟨rfl, rfl⟩
set_option maxRecDepth 100000 in
set_option maxHeartbeats 8000000 in
theorem ev_Ru_add_2 (l : Launch) (D : va_G) (cA : Nat → ClassId) (wy pt : Int32) (nt rl : Bool) (le mo sz : Int32) (ct : Int64) (ac : Bool) : E0_Ru_add l D cA [.ref 0, .ref 4] [(0, cRu 1 wy pt 2), (1, cOs [some 2, some 3, none]), (4, cOp nt rl le mo sz ct ac)] none [(0, cRu 1 wy pt 3), (1, cOs [some 2, some 3, some 4]), (4, cOp nt rl le mo sz ct ac)] := by
  refine mj_ev (lv := [(0, .ref 0), (1, .ref 4)]) (by decide +kernel) (Nat.le_of_ble_eq_true rfl) rfl (fun X h => ?_)
  refine mj_blk h.1 b_Ru_add_0 rfl trivial ?_
  refine mj_icge h.1 (tgt := 28) d_Ru_add_5 (by decide) (fun h1 => ?_) (fun h1 => ?_)
  · exact absurd h1 (by decide)
  · refine mj_blk h.1 b_Ru_add_8 rfl trivial ?_
    refine mj_aast h.1 (r := (R_Op, T_Op, 7)) rfl rfl rfl rfl (show vp_in (nI 2) 3 from vp_in_nI (by decide) (by decide)) rfl d_Ru_add_17 rfl ?_
    refine mj_blk h.1 b_Ru_add_18 rfl trivial ?_
    exact mj_vret h rfl d_Ru_add_28 (by decide) (by decide) ⟨rfl, rfl⟩
set_option maxRecDepth 100000 in
set_option maxHeartbeats 8000000 in
theorem ev_Sw_rule_0 (l : Launch) (D : va_G) (cA : Nat → ClassId) (st : Bool) (w p : Int32) (hg : ¬ w < 0 ∧ ¬ 2 < w ∧ ¬ p < 0 ∧ p ≤ 65535) : mj_EvZ zG l D cA m_Sw_rule 2 80 2 7 [.ref 50, .int w, .int p] [(50, cSw st 0), (53, cRs [none, none, none, none, none, none])] [0, 40, 50, 51, 53, 60, 70] Z_Ru (fun r1 w1 => r1 = some (.int (nI 0)) ∧ w1 = [(50, cSw st 1), (53, cRs [some 100, none, none, none, none, none])] ++ [(100, cRu 101 w p 0), (101, cOs [none, none, none])]) := by
  refine mj_evZ (lv := [(0, .ref 50), (1, .int w), (2, .int p)]) (by decide +kernel) (Nat.le_of_ble_eq_true rfl) rfl (fun X h hZ => ?_)
  refine mj_blk h.1 b_Sw_rule_0 rfl trivial ?_
  refine mj_iflt h.1 (tgt := 9) d_Sw_rule_1 (by decide) (fun h1 => ?_) (fun h1 => ?_)
  · exact absurd h1 hg.1
  · refine mj_blk h.1 b_Sw_rule_4 rfl trivial ?_
    refine mj_icle h.1 (tgt := 19) d_Sw_rule_6 (by decide) (fun h2 => ?_) (fun h2 => ?_)
    · refine mj_blk h.1 b_Sw_rule_19 rfl trivial ?_
      refine mj_iflt h.1 (tgt := 29) d_Sw_rule_20 (by decide) (fun h3 => ?_) (fun h3 => ?_)
      · exact absurd h3 hg.2.2.1
      · refine mj_blk h.1 b_Sw_rule_23 rfl trivial ?_
        refine mj_icle h.1 (tgt := 39) d_Sw_rule_26 (by decide) (fun h4 => ?_) (fun h4 => ?_)
        · refine mj_blk h.1 b_Sw_rule_39 rfl trivial ?_
          refine mj_iclt h.1 (tgt := 58) d_Sw_rule_45 (by decide) (fun h5 => ?_) (fun h5 => ?_)
          · refine mj_blk h.1 b_Sw_rule_58 rfl trivial ?_
            refine mj_new h.1 (mj_rm h) (ci := 6) (fs := [.int 0, .int 0, .null, .int 0]) rfl u_Ru t_Ru_ok z1_164 z3_229 z1_17 df_Ru (fun _ => rfl) d_Sw_rule_66 (by decide) (by decide) 100 (mj_bl_no rfl) (mj_fb_ok rfl) rfl ?_
            refine mj_blk h.1 b_Sw_rule_69 rfl trivial ?_
            refine mj_callI h zGood hZ (ev_Ru_init l D cA w p) iw_Ru_init (Or.inl z3_230) ⟨(fun _ h => nomatch h), List.forall_mem_cons.mpr ⟨List.mem_cons_self, (fun _ h => nomatch h)⟩⟩ d_Sw_rule_72 rfl ⟨by decide, by decide⟩ ⟨by decide, by decide⟩ [(0, 100), (1, 101)] [(1, 101)] rfl rfl rfl rfl (Nat.le_of_ble_eq_true rfl) rfl ?_
            rintro _ _ ⟨rfl, rfl⟩
            refine mj_k9 rfl rfl rfl rfl rfl rfl rfl rfl ?_
            refine mj_aast h.1 (r := (R_Ru, T_Ru, 4)) rfl rfl rfl rfl (show vp_in (nI 0) 6 from vp_in_nI (by decide) (by decide)) rfl d_Sw_rule_75 rfl ?_
            refine mj_blk h.1 b_Sw_rule_76 rfl trivial ?_
            exact mj_iret h rfl d_Sw_rule_92 (by decide) (by decide) ⟨rfl, rfl⟩
          · exact absurd (by decide) h5
        · exact absurd hg.2.2.2 h4
    · exact absurd (Int32.not_lt.mp hg.2.1) h2
set_option maxRecDepth 100000 in
set_option maxHeartbeats 8000000 in
theorem ev_Sw_rule_1 (l : Launch) (D : va_G) (cA : Nat → ClassId) (st : Bool) (w p : Int32) (hg : ¬ w < 0 ∧ ¬ 2 < w ∧ ¬ p < 0 ∧ p ≤ 65535) : mj_EvZ zG l D cA m_Sw_rule 2 80 2 7 [.ref 50, .int w, .int p] [(50, cSw st 1), (53, cRs [some 100, none, none, none, none, none])] [0, 40, 50, 51, 53, 60, 70, 100] Z_Ru (fun r1 w1 => r1 = some (.int (nI 1)) ∧ w1 = [(50, cSw st 2), (53, cRs [some 100, some 110, none, none, none, none])] ++ [(110, cRu 111 w p 0), (111, cOs [none, none, none])]) := by
  refine mj_evZ (lv := [(0, .ref 50), (1, .int w), (2, .int p)]) (by decide +kernel) (Nat.le_of_ble_eq_true rfl) rfl (fun X h hZ => ?_)
  refine mj_blk h.1 b_Sw_rule_0 rfl trivial ?_
  refine mj_iflt h.1 (tgt := 9) d_Sw_rule_1 (by decide) (fun h1 => ?_) (fun h1 => ?_)
  · exact absurd h1 hg.1
  · refine mj_blk h.1 b_Sw_rule_4 rfl trivial ?_
    refine mj_icle h.1 (tgt := 19) d_Sw_rule_6 (by decide) (fun h2 => ?_) (fun h2 => ?_)
    · refine mj_blk h.1 b_Sw_rule_19 rfl trivial ?_
      refine mj_iflt h.1 (tgt := 29) d_Sw_rule_20 (by decide) (fun h3 => ?_) (fun h3 => ?_)
      · exact absurd h3 hg.2.2.1
      · refine mj_blk h.1 b_Sw_rule_23 rfl trivial ?_
        refine mj_icle h.1 (tgt := 39) d_Sw_rule_26 (by decide) (fun h4 => ?_) (fun h4 => ?_)
        · refine mj_blk h.1 b_Sw_rule_39 rfl trivial ?_
          refine mj_iclt h.1 (tgt := 58) d_Sw_rule_45 (by decide) (fun h5 => ?_) (fun h5 => ?_)
          · refine mj_blk h.1 b_Sw_rule_58 rfl trivial ?_
            refine mj_new h.1 (mj_rm h) (ci := 6) (fs := [.int 0, .int 0, .null, .int 0]) rfl u_Ru t_Ru_ok z1_164 z3_229 z1_17 df_Ru (fun _ => rfl) d_Sw_rule_66 (by decide) (by decide) 110 (mj_bl_no rfl) (mj_fb_ok rfl) rfl ?_
            refine mj_blk h.1 b_Sw_rule_69 rfl trivial ?_
            refine mj_callI h zGood hZ (ev_Ru_init l D cA w p) iw_Ru_init (Or.inl z3_230) ⟨(fun _ h => nomatch h), List.forall_mem_cons.mpr ⟨List.mem_cons_self, (fun _ h => nomatch h)⟩⟩ d_Sw_rule_72 rfl ⟨by decide, by decide⟩ ⟨by decide, by decide⟩ [(0, 110), (1, 111)] [(1, 111)] rfl rfl rfl rfl (Nat.le_of_ble_eq_true rfl) rfl ?_
            rintro _ _ ⟨rfl, rfl⟩
            refine mj_k9 rfl rfl rfl rfl rfl rfl rfl rfl ?_
            refine mj_aast h.1 (r := (R_Ru, T_Ru, 4)) rfl rfl rfl rfl (show vp_in (nI 1) 6 from vp_in_nI (by decide) (by decide)) rfl d_Sw_rule_75 rfl ?_
            refine mj_blk h.1 b_Sw_rule_76 rfl trivial ?_
            exact mj_iret h rfl d_Sw_rule_92 (by decide) (by decide) ⟨rfl, rfl⟩
          · exact absurd (by decide) h5
        · exact absurd hg.2.2.2 h4
    · exact absurd (Int32.not_lt.mp hg.2.1) h2
set_option maxRecDepth 100000 in
set_option maxHeartbeats 8000000 in
theorem ev_Sw_rule_2 (l : Launch) (D : va_G) (cA : Nat → ClassId) (st : Bool) (w p : Int32) (hg : ¬ w < 0 ∧ ¬ 2 < w ∧ ¬ p < 0 ∧ p ≤ 65535) : mj_EvZ zG l D cA m_Sw_rule 2 80 2 7 [.ref 50, .int w, .int p] [(50, cSw st 2), (53, cRs [some 100, some 110, none, none, none, none])] [0, 40, 50, 51, 53, 60, 70, 100, 110] Z_Ru (fun r1 w1 => r1 = some (.int (nI 2)) ∧ w1 = [(50, cSw st 3), (53, cRs [some 100, some 110, some 120, none, none, none])] ++ [(120, cRu 121 w p 0), (121, cOs [none, none, none])]) := by
  refine mj_evZ (lv := [(0, .ref 50), (1, .int w), (2, .int p)]) (by decide +kernel) (Nat.le_of_ble_eq_true rfl) rfl (fun X h hZ => ?_)
  refine mj_blk h.1 b_Sw_rule_0 rfl trivial ?_
  refine mj_iflt h.1 (tgt := 9) d_Sw_rule_1 (by decide) (fun h1 => ?_) (fun h1 => ?_)
  · exact absurd h1 hg.1
  · refine mj_blk h.1 b_Sw_rule_4 rfl trivial ?_
    refine mj_icle h.1 (tgt := 19) d_Sw_rule_6 (by decide) (fun h2 => ?_) (fun h2 => ?_)
    · refine mj_blk h.1 b_Sw_rule_19 rfl trivial ?_
      refine mj_iflt h.1 (tgt := 29) d_Sw_rule_20 (by decide) (fun h3 => ?_) (fun h3 => ?_)
      · exact absurd h3 hg.2.2.1
      · refine mj_blk h.1 b_Sw_rule_23 rfl trivial ?_
        refine mj_icle h.1 (tgt := 39) d_Sw_rule_26 (by decide) (fun h4 => ?_) (fun h4 => ?_)
        · refine mj_blk h.1 b_Sw_rule_39 rfl trivial ?_
          refine mj_iclt h.1 (tgt := 58) d_Sw_rule_45 (by decide) (fun h5 => ?_) (fun h5 => ?_)
          · refine mj_blk h.1 b_Sw_rule_58 rfl trivial ?_
            refine mj_new h.1 (mj_rm h) (ci := 6) (fs := [.int 0, .int 0, .null, .int 0]) rfl u_Ru t_Ru_ok z1_164 z3_229 z1_17 df_Ru (fun _ => rfl) d_Sw_rule_66 (by decide) (by decide) 120 (mj_bl_no rfl) (mj_fb_ok rfl) rfl ?_
            refine mj_blk h.1 b_Sw_rule_69 rfl trivial ?_
            refine mj_callI h zGood hZ (ev_Ru_init l D cA w p) iw_Ru_init (Or.inl z3_230) ⟨(fun _ h => nomatch h), List.forall_mem_cons.mpr ⟨List.mem_cons_self, (fun _ h => nomatch h)⟩⟩ d_Sw_rule_72 rfl ⟨by decide, by decide⟩ ⟨by decide, by decide⟩ [(0, 120), (1, 121)] [(1, 121)] rfl rfl rfl rfl (Nat.le_of_ble_eq_true rfl) rfl ?_
            rintro _ _ ⟨rfl, rfl⟩
            refine mj_k9 rfl rfl rfl rfl rfl rfl rfl rfl ?_
            refine mj_aast h.1 (r := (R_Ru, T_Ru, 4)) rfl rfl rfl rfl (show vp_in (nI 2) 6 from vp_in_nI (by decide) (by decide)) rfl d_Sw_rule_75 rfl ?_
            refine mj_blk h.1 b_Sw_rule_76 rfl trivial ?_
            exact mj_iret h rfl d_Sw_rule_92 (by decide) (by decide) ⟨rfl, rfl⟩
          · exact absurd (by decide) h5
        · exact absurd hg.2.2.2 h4
    · exact absurd (Int32.not_lt.mp hg.2.1) h2
set_option maxRecDepth 100000 in
set_option maxHeartbeats 8000000 in
theorem ev_Sw_rule_3 (l : Launch) (D : va_G) (cA : Nat → ClassId) (st : Bool) (w p : Int32) (hg : ¬ w < 0 ∧ ¬ 2 < w ∧ ¬ p < 0 ∧ p ≤ 65535) : mj_EvZ zG l D cA m_Sw_rule 2 80 2 7 [.ref 50, .int w, .int p] [(50, cSw st 3), (53, cRs [some 100, some 110, some 120, none, none, none])] [0, 40, 50, 51, 53, 60, 70, 100, 110, 120] Z_Ru (fun r1 w1 => r1 = some (.int (nI 3)) ∧ w1 = [(50, cSw st 4), (53, cRs [some 100, some 110, some 120, some 130, none, none])] ++ [(130, cRu 131 w p 0), (131, cOs [none, none, none])]) := by
  refine mj_evZ (lv := [(0, .ref 50), (1, .int w), (2, .int p)]) (by decide +kernel) (Nat.le_of_ble_eq_true rfl) rfl (fun X h hZ => ?_)
  refine mj_blk h.1 b_Sw_rule_0 rfl trivial ?_
  refine mj_iflt h.1 (tgt := 9) d_Sw_rule_1 (by decide) (fun h1 => ?_) (fun h1 => ?_)
  · exact absurd h1 hg.1
  · refine mj_blk h.1 b_Sw_rule_4 rfl trivial ?_
    refine mj_icle h.1 (tgt := 19) d_Sw_rule_6 (by decide) (fun h2 => ?_) (fun h2 => ?_)
    · refine mj_blk h.1 b_Sw_rule_19 rfl trivial ?_
      refine mj_iflt h.1 (tgt := 29) d_Sw_rule_20 (by decide) (fun h3 => ?_) (fun h3 => ?_)
      · exact absurd h3 hg.2.2.1
      · refine mj_blk h.1 b_Sw_rule_23 rfl trivial ?_
        refine mj_icle h.1 (tgt := 39) d_Sw_rule_26 (by decide) (fun h4 => ?_) (fun h4 => ?_)
        · refine mj_blk h.1 b_Sw_rule_39 rfl trivial ?_
          refine mj_iclt h.1 (tgt := 58) d_Sw_rule_45 (by decide) (fun h5 => ?_) (fun h5 => ?_)
          · refine mj_blk h.1 b_Sw_rule_58 rfl trivial ?_
            refine mj_new h.1 (mj_rm h) (ci := 6) (fs := [.int 0, .int 0, .null, .int 0]) rfl u_Ru t_Ru_ok z1_164 z3_229 z1_17 df_Ru (fun _ => rfl) d_Sw_rule_66 (by decide) (by decide) 130 (mj_bl_no rfl) (mj_fb_ok rfl) rfl ?_
            refine mj_blk h.1 b_Sw_rule_69 rfl trivial ?_
            refine mj_callI h zGood hZ (ev_Ru_init l D cA w p) iw_Ru_init (Or.inl z3_230) ⟨(fun _ h => nomatch h), List.forall_mem_cons.mpr ⟨List.mem_cons_self, (fun _ h => nomatch h)⟩⟩ d_Sw_rule_72 rfl ⟨by decide, by decide⟩ ⟨by decide, by decide⟩ [(0, 130), (1, 131)] [(1, 131)] rfl rfl rfl rfl (Nat.le_of_ble_eq_true rfl) rfl ?_
            rintro _ _ ⟨rfl, rfl⟩
            refine mj_k9 rfl rfl rfl rfl rfl rfl rfl rfl ?_
            refine mj_aast h.1 (r := (R_Ru, T_Ru, 4)) rfl rfl rfl rfl (show vp_in (nI 3) 6 from vp_in_nI (by decide) (by decide)) rfl d_Sw_rule_75 rfl ?_
            refine mj_blk h.1 b_Sw_rule_76 rfl trivial ?_
            exact mj_iret h rfl d_Sw_rule_92 (by decide) (by decide) ⟨rfl, rfl⟩
          · exact absurd (by decide) h5
        · exact absurd hg.2.2.2 h4
    · exact absurd (Int32.not_lt.mp hg.2.1) h2
set_option maxRecDepth 100000 in
set_option maxHeartbeats 8000000 in
theorem ev_Sw_rule_4 (l : Launch) (D : va_G) (cA : Nat → ClassId) (st : Bool) (w p : Int32) (hg : ¬ w < 0 ∧ ¬ 2 < w ∧ ¬ p < 0 ∧ p ≤ 65535) : mj_EvZ zG l D cA m_Sw_rule 2 80 2 7 [.ref 50, .int w, .int p] [(50, cSw st 4), (53, cRs [some 100, some 110, some 120, some 130, none, none])] [0, 40, 50, 51, 53, 60, 70, 100, 110, 120, 130] Z_Ru (fun r1 w1 => r1 = some (.int (nI 4)) ∧ w1 = [(50, cSw st 5), (53, cRs [some 100, some 110, some 120, some 130, some 140, none])] ++ [(140, cRu 141 w p 0), (141, cOs [none, none, none])]) := by
  refine mj_evZ (lv := [(0, .ref 50), (1, .int w), (2, .int p)]) (by decide +kernel) (Nat.le_of_ble_eq_true rfl) rfl (fun X h hZ => ?_)
  refine mj_blk h.1 b_Sw_rule_0 rfl trivial ?_
  refine mj_iflt h.1 (tgt := 9) d_Sw_rule_1 (by decide) (fun h1 => ?_) (fun h1 => ?_)
  · exact absurd h1 hg.1
  · refine mj_blk h.1 b_Sw_rule_4 rfl trivial ?_
    refine mj_icle h.1 (tgt := 19) d_Sw_rule_6 (by decide) (fun h2 => ?_) (fun h2 => ?_)
    · refine mj_blk h.1 b_Sw_rule_19 rfl trivial ?_
      refine mj_iflt h.1 (tgt := 29) d_Sw_rule_20 (by decide) (fun h3 => ?_) (fun h3 => ?_)
      · exact absurd h3 hg.2.2.1
      · refine mj_blk h.1 b_Sw_rule_23 rfl trivial ?_
        refine mj_icle h.1 (tgt := 39) d_Sw_rule_26 (by decide) (fun h4 => ?_) (fun h4 => ?_)
        · refine mj_blk h.1 b_Sw_rule_39 rfl trivial ?_
          refine mj_iclt h.1 (tgt := 58) d_Sw_rule_45 (by decide) (fun h5 => ?_) (fun h5 => ?_)
          · refine mj_blk h.1 b_Sw_rule_58 rfl trivial ?_
            refine mj_new h.1 (mj_rm h) (ci := 6) (fs := [.int 0, .int 0, .null, .int 0]) rfl u_Ru t_Ru_ok z1_164 z3_229 z1_17 df_Ru (fun _ => rfl) d_Sw_rule_66 (by decide) (by decide) 140 (mj_bl_no rfl) (mj_fb_ok rfl) rfl ?_
            refine mj_blk h.1 b_Sw_rule_69 rfl trivial ?_
            refine mj_callI h zGood hZ (ev_Ru_init l D cA w p) iw_Ru_init (Or.inl z3_230) ⟨(fun _ h => nomatch h), List.forall_mem_cons.mpr ⟨List.mem_cons_self, (fun _ h => nomatch h)⟩⟩ d_Sw_rule_72 rfl ⟨by decide, by decide⟩ ⟨by decide, by decide⟩ [(0, 140), (1, 141)] [(1, 141)] rfl rfl rfl rfl (Nat.le_of_ble_eq_true rfl) rfl ?_
            rintro _ _ ⟨rfl, rfl⟩
            refine mj_k9 rfl rfl rfl rfl rfl rfl rfl rfl ?_
            refine mj_aast h.1 (r := (R_Ru, T_Ru, 4)) rfl rfl rfl rfl (show vp_in (nI 4) 6 from vp_in_nI (by decide) (by decide)) rfl d_Sw_rule_75 rfl ?_
            refine mj_blk h.1 b_Sw_rule_76 rfl trivial ?_
            exact mj_iret h rfl d_Sw_rule_92 (by decide) (by decide) ⟨rfl, rfl⟩
          · exact absurd (by decide) h5
        · exact absurd hg.2.2.2 h4
    · exact absurd (Int32.not_lt.mp hg.2.1) h2
set_option maxRecDepth 100000 in
set_option maxHeartbeats 8000000 in
theorem ev_Sw_rule_5 (l : Launch) (D : va_G) (cA : Nat → ClassId) (st : Bool) (w p : Int32) (hg : ¬ w < 0 ∧ ¬ 2 < w ∧ ¬ p < 0 ∧ p ≤ 65535) : mj_EvZ zG l D cA m_Sw_rule 2 80 2 7 [.ref 50, .int w, .int p] [(50, cSw st 5), (53, cRs [some 100, some 110, some 120, some 130, some 140, none])] [0, 40, 50, 51, 53, 60, 70, 100, 110, 120, 130, 140] Z_Ru (fun r1 w1 => r1 = some (.int (nI 5)) ∧ w1 = [(50, cSw st 6), (53, cRs [some 100, some 110, some 120, some 130, some 140, some 150])] ++ [(150, cRu 151 w p 0), (151, cOs [none, none, none])]) := by
  refine mj_evZ (lv := [(0, .ref 50), (1, .int w), (2, .int p)]) (by decide +kernel) (Nat.le_of_ble_eq_true rfl) rfl (fun X h hZ => ?_)
  refine mj_blk h.1 b_Sw_rule_0 rfl trivial ?_
  refine mj_iflt h.1 (tgt := 9) d_Sw_rule_1 (by decide) (fun h1 => ?_) (fun h1 => ?_)
  · exact absurd h1 hg.1
  · refine mj_blk h.1 b_Sw_rule_4 rfl trivial ?_
    refine mj_icle h.1 (tgt := 19) d_Sw_rule_6 (by decide) (fun h2 => ?_) (fun h2 => ?_)
    · refine mj_blk h.1 b_Sw_rule_19 rfl trivial ?_
      refine mj_iflt h.1 (tgt := 29) d_Sw_rule_20 (by decide) (fun h3 => ?_) (fun h3 => ?_)
      · exact absurd h3 hg.2.2.1
      · refine mj_blk h.1 b_Sw_rule_23 rfl trivial ?_
        refine mj_icle h.1 (tgt := 39) d_Sw_rule_26 (by decide) (fun h4 => ?_) (fun h4 => ?_)
        · refine mj_blk h.1 b_Sw_rule_39 rfl trivial ?_
          refine mj_iclt h.1 (tgt := 58) d_Sw_rule_45 (by decide) (fun h5 => ?_) (fun h5 => ?_)
          · refine mj_blk h.1 b_Sw_rule_58 rfl trivial ?_
            refine mj_new h.1 (mj_rm h) (ci := 6) (fs := [.int 0, .int 0, .null, .int 0]) rfl u_Ru t_Ru_ok z1_164 z3_229 z1_17 df_Ru (fun _ => rfl) d_Sw_rule_66 (by decide) (by decide) 150 (mj_bl_no rfl) (mj_fb_ok rfl) rfl ?_
            refine mj_blk h.1 b_Sw_rule_69 rfl trivial ?_
            refine mj_callI h zGood hZ (ev_Ru_init l D cA w p) iw_Ru_init (Or.inl z3_230) ⟨(fun _ h => nomatch h), List.forall_mem_cons.mpr ⟨List.mem_cons_self, (fun _ h => nomatch h)⟩⟩ d_Sw_rule_72 rfl ⟨by decide, by decide⟩ ⟨by decide, by decide⟩ [(0, 150), (1, 151)] [(1, 151)] rfl rfl rfl rfl (Nat.le_of_ble_eq_true rfl) rfl ?_
            rintro _ _ ⟨rfl, rfl⟩
            refine mj_k9 rfl rfl rfl rfl rfl rfl rfl rfl ?_
            refine mj_aast h.1 (r := (R_Ru, T_Ru, 4)) rfl rfl rfl rfl (show vp_in (nI 5) 6 from vp_in_nI (by decide) (by decide)) rfl d_Sw_rule_75 rfl ?_
            refine mj_blk h.1 b_Sw_rule_76 rfl trivial ?_
            exact mj_iret h rfl d_Sw_rule_92 (by decide) (by decide) ⟨rfl, rfl⟩
          · exact absurd (by decide) h5
        · exact absurd hg.2.2.2 h4
    · exact absurd (Int32.not_lt.mp hg.2.1) h2
set_option maxRecDepth 100000 in
set_option maxHeartbeats 8000000 in
theorem ev_Sw_option_1_0 (l : Launch) (D : va_G) (cA : Nat → ClassId) (st : Bool) (wy pt : Int32) (cz : Nat) (v : Int64) (m a b : Int32) (hg : ¬ nI cz < 1 ∧ ¬ 6 < nI cz ∧ ¬ m < 0 ∧ ¬ 7 < m ∧ ¬ a < -80 ∧ ¬ 80 < a ∧ ¬ b < 0 ∧ b ≤ 80) : mj_EvZ zG l D cA m_Sw_option 2 80 1 7 [.ref 50, .int (nI cz), .long v, .int m, .int a, .int b] [(50, cSw st 1), (53, cRs [some 100, none, none, none, none, none]), (100, cRu 101 wy pt 0), (101, cOs [none, none, none])] [0, 40, 50, 51, 53, 60, 70, 100, 101] Z_0 (fun r1 w1 => r1 = some (.int (nI 1)) ∧ w1 = [(50, cSw st 1), (53, cRs [some 100, none, none, none, none, none]), (100, cRu 101 wy pt 1), (101, cOs [some 102, none, none])] ++ [(102, cOt (uNew cz v m a b))]) := by
  refine mj_evZ (lv := [(0, .ref 50), (1, .int (nI cz)), (2, .long v), (4, .int m), (5, .int a), (6, .int b)]) (by decide +kernel) (Nat.le_of_ble_eq_true rfl) rfl (fun X h hZ => ?_)
  refine mj_blk h.1 b_Sw_option_0 rfl trivial ?_
  refine mj_iclt h.1 (tgt := 11) d_Sw_option_2 (by decide) (fun h1 => ?_) (fun h1 => ?_)
  · exact absurd h1 hg.1
  · refine mj_blk h.1 b_Sw_option_5 rfl trivial ?_
    refine mj_icle h.1 (tgt := 21) d_Sw_option_8 (by decide) (fun h2 => ?_) (fun h2 => ?_)
    · refine mj_blk h.1 b_Sw_option_21 rfl trivial ?_
      refine mj_iflt h.1 (tgt := 33) d_Sw_option_23 (by decide) (fun h3 => ?_) (fun h3 => ?_)
      · exact absurd h3 hg.2.2.1
      · refine mj_blk h.1 b_Sw_option_26 rfl trivial ?_
        refine mj_icle h.1 (tgt := 43) d_Sw_option_30 (by decide) (fun h4 => ?_) (fun h4 => ?_)
        · refine mj_blk h.1 b_Sw_option_43 rfl trivial ?_
          refine mj_iclt h.1 (tgt := 57) d_Sw_option_47 (by decide) (fun h5 => ?_) (fun h5 => ?_)
          · exact absurd h5 hg.2.2.2.2.1
          · refine mj_blk h.1 b_Sw_option_50 rfl trivial ?_
            refine mj_icle h.1 (tgt := 67) d_Sw_option_54 (by decide) (fun h6 => ?_) (fun h6 => ?_)
            · refine mj_blk h.1 b_Sw_option_67 rfl trivial ?_
              refine mj_iflt h.1 (tgt := 79) d_Sw_option_69 (by decide) (fun h7 => ?_) (fun h7 => ?_)
              · exact absurd h7 hg.2.2.2.2.2.2.1
              · refine mj_blk h.1 b_Sw_option_72 rfl trivial ?_
                refine mj_icle h.1 (tgt := 89) d_Sw_option_76 (by decide) (fun h8 => ?_) (fun h8 => ?_)
                · refine mj_blk h.1 b_Sw_option_89 rfl trivial ?_
                  rw [show nI 1 - 1 = nI 0 from rfl]
                  refine mj_callV h zGood (ev_Sw_ruleAt l D cA st 1 (by decide) [some 100, none, none, none, none, none] 0 100 (by decide) rfl) v_Sw_ruleAt l_Sw_option_96 d_Sw_option_96 rfl ⟨by decide, by decide⟩ ⟨by decide, by decide⟩ [] rfl rfl rfl rfl rfl rfl (Nat.le_of_ble_eq_true rfl) ?_
                  rintro _ _ ⟨rfl, rfl⟩
                  refine mj_k rfl rfl ?_
                  refine mj_blk h.1 b_Sw_option_99 rfl trivial ?_
                  refine mj_ifnonnull_r h.1 d_Sw_option_103 (tgt := 116) (by decide) ?_
                  refine mj_blk h.1 b_Sw_option_116 rfl trivial ?_
                  refine mj_callV h zGood (ev_Ru_size l D cA wy pt 0) v_Ru_size l_Sw_option_118 d_Sw_option_118 rfl ⟨by decide, by decide⟩ ⟨by decide, by decide⟩ [(0, 100), (1, 101), (2, 102), (3, 103), (4, 104)] rfl rfl rfl rfl rfl rfl (Nat.le_of_ble_eq_true rfl) ?_
                  rintro _ _ ⟨rfl, rfl⟩
                  refine mj_k rfl rfl ?_
                  refine mj_blk h.1 b_Sw_option_121 rfl trivial ?_
                  refine mj_iclt h.1 (tgt := 135) d_Sw_option_122 (by decide) (fun h9 => ?_) (fun h9 => ?_)
                  · refine mj_blk h.1 b_Sw_option_135 rfl trivial ?_
                    refine mj_new h.1 (mj_rm h) (ci := 4) (fs := [.int 0, .int 0, .int 0, .int 0, .int 0, .long 0, .int 0]) rfl u_Op t_Op_ok z4_23 z3_17 z1_18 df_Op (fun _ => rfl) d_Sw_option_137 (by decide) (by decide) 102 (mj_bl_no rfl) (mj_fb_ok rfl) rfl ?_
                    refine mj_blk h.1 b_Sw_option_140 rfl trivial ?_
                    refine mj_callI h zGood hZ (ev_Op_init l D cA cz v m a b) iw_Op_init (Or.inl z4_24) ⟨(fun _ h => nomatch h), (fun _ h => nomatch h)⟩ d_Sw_option_149 rfl ⟨by decide, by decide⟩ ⟨by decide, by decide⟩ [(0, 102)] [] rfl rfl rfl rfl (Nat.le_of_ble_eq_true rfl) rfl ?_
                    rintro _ _ ⟨rfl, rfl⟩
                    refine mj_k9 rfl rfl rfl rfl rfl rfl rfl rfl ?_
                    refine mj_callV h zGood (ev_Ru_add_0 l D cA wy pt _ _ _ _ _ _ _) v_Ru_add l_Sw_option_152 d_Sw_option_152 rfl ⟨by decide, by decide⟩ ⟨by decide, by decide⟩ [(0, 100), (1, 101), (2, 102), (3, 103), (4, 104)] rfl rfl rfl rfl rfl rfl (Nat.le_of_ble_eq_true rfl) ?_
                    rintro _ _ ⟨rfl, rfl⟩
                    refine mj_k rfl rfl ?_
                    refine mj_blk h.1 b_Sw_option_155 rfl trivial ?_
                    refine mj_callV h zGood (ev_Ru_size l D cA wy pt 1) v_Ru_size l_Sw_option_157 d_Sw_option_157 rfl ⟨by decide, by decide⟩ ⟨by decide, by decide⟩ [(0, 100), (1, 101), (2, 102), (3, 103), (4, 104)] rfl rfl rfl rfl rfl rfl (Nat.le_of_ble_eq_true rfl) ?_
                    rintro _ _ ⟨rfl, rfl⟩
                    refine mj_k rfl rfl ?_
                    exact mj_iret h rfl d_Sw_option_160 (by decide) (by decide) ⟨rfl, rfl⟩
                  · exact absurd (by decide) h9
                · exact absurd hg.2.2.2.2.2.2.2 h8
            · exact absurd (Int32.not_lt.mp hg.2.2.2.2.2.1) h6
        · exact absurd (Int32.not_lt.mp hg.2.2.2.1) h4
    · exact absurd (Int32.not_lt.mp hg.2.1) h2
set_option maxRecDepth 100000 in
set_option maxHeartbeats 8000000 in
theorem ev_Sw_option_1_1 (l : Launch) (D : va_G) (cA : Nat → ClassId) (st : Bool) (wy pt : Int32) (cz : Nat) (v : Int64) (m a b : Int32) (hg : ¬ nI cz < 1 ∧ ¬ 6 < nI cz ∧ ¬ m < 0 ∧ ¬ 7 < m ∧ ¬ a < -80 ∧ ¬ 80 < a ∧ ¬ b < 0 ∧ b ≤ 80) : mj_EvZ zG l D cA m_Sw_option 2 80 1 7 [.ref 50, .int (nI cz), .long v, .int m, .int a, .int b] [(50, cSw st 1), (53, cRs [some 100, none, none, none, none, none]), (100, cRu 101 wy pt 1), (101, cOs [some 102, none, none])] [0, 40, 50, 51, 53, 60, 70, 100, 101, 102] Z_0 (fun r1 w1 => r1 = some (.int (nI 2)) ∧ w1 = [(50, cSw st 1), (53, cRs [some 100, none, none, none, none, none]), (100, cRu 101 wy pt 2), (101, cOs [some 102, some 103, none])] ++ [(103, cOt (uNew cz v m a b))]) := by
  refine mj_evZ (lv := [(0, .ref 50), (1, .int (nI cz)), (2, .long v), (4, .int m), (5, .int a), (6, .int b)]) (by decide +kernel) (Nat.le_of_ble_eq_true rfl) rfl (fun X h hZ => ?_)
  refine mj_blk h.1 b_Sw_option_0 rfl trivial ?_
  refine mj_iclt h.1 (tgt := 11) d_Sw_option_2 (by decide) (fun h1 => ?_) (fun h1 => ?_)
  · exact absurd h1 hg.1
  · refine mj_blk h.1 b_Sw_option_5 rfl trivial ?_
    refine mj_icle h.1 (tgt := 21) d_Sw_option_8 (by decide) (fun h2 => ?_) (fun h2 => ?_)
    · refine mj_blk h.1 b_Sw_option_21 rfl trivial ?_
      refine mj_iflt h.1 (tgt := 33) d_Sw_option_23 (by decide) (fun h3 => ?_) (fun h3 => ?_)
      · exact absurd h3 hg.2.2.1
      · refine mj_blk h.1 b_Sw_option_26 rfl trivial ?_
        refine mj_icle h.1 (tgt := 43) d_Sw_option_30 (by decide) (fun h4 => ?_) (fun h4 => ?_)
        · refine mj_blk h.1 b_Sw_option_43 rfl trivial ?_
          refine mj_iclt h.1 (tgt := 57) d_Sw_option_47 (by decide) (fun h5 => ?_) (fun h5 => ?_)
          · exact absurd h5 hg.2.2.2.2.1
          · refine mj_blk h.1 b_Sw_option_50 rfl trivial ?_
            refine mj_icle h.1 (tgt := 67) d_Sw_option_54 (by decide) (fun h6 => ?_) (fun h6 => ?_)
            · refine mj_blk h.1 b_Sw_option_67 rfl trivial ?_
              refine mj_iflt h.1 (tgt := 79) d_Sw_option_69 (by decide) (fun h7 => ?_) (fun h7 => ?_)
              · exact absurd h7 hg.2.2.2.2.2.2.1
              · refine mj_blk h.1 b_Sw_option_72 rfl trivial ?_
                refine mj_icle h.1 (tgt := 89) d_Sw_option_76 (by decide) (fun h8 => ?_) (fun h8 => ?_)
                · refine mj_blk h.1 b_Sw_option_89 rfl trivial ?_
                  rw [show nI 1 - 1 = nI 0 from rfl]
                  refine mj_callV h zGood (ev_Sw_ruleAt l D cA st 1 (by decide) [some 100, none, none, none, none, none] 0 100 (by decide) rfl) v_Sw_ruleAt l_Sw_option_96 d_Sw_option_96 rfl ⟨by decide, by decide⟩ ⟨by decide, by decide⟩ [] rfl rfl rfl rfl rfl rfl (Nat.le_of_ble_eq_true rfl) ?_
                  rintro _ _ ⟨rfl, rfl⟩
                  refine mj_k rfl rfl ?_
                  refine mj_blk h.1 b_Sw_option_99 rfl trivial ?_
                  refine mj_ifnonnull_r h.1 d_Sw_option_103 (tgt := 116) (by decide) ?_
                  refine mj_blk h.1 b_Sw_option_116 rfl trivial ?_
                  refine mj_callV h zGood (ev_Ru_size l D cA wy pt 1) v_Ru_size l_Sw_option_118 d_Sw_option_118 rfl ⟨by decide, by decide⟩ ⟨by decide, by decide⟩ [(0, 100), (1, 101), (2, 102), (3, 103), (4, 104)] rfl rfl rfl rfl rfl rfl (Nat.le_of_ble_eq_true rfl) ?_
                  rintro _ _ ⟨rfl, rfl⟩
                  refine mj_k rfl rfl ?_
                  refine mj_blk h.1 b_Sw_option_121 rfl trivial ?_
                  refine mj_iclt h.1 (tgt := 135) d_Sw_option_122 (by decide) (fun h9 => ?_) (fun h9 => ?_)
                  · refine mj_blk h.1 b_Sw_option_135 rfl trivial ?_
                    refine mj_new h.1 (mj_rm h) (ci := 4) (fs := [.int 0, .int 0, .int 0, .int 0, .int 0, .long 0, .int 0]) rfl u_Op t_Op_ok z4_23 z3_17 z1_18 df_Op (fun _ => rfl) d_Sw_option_137 (by decide) (by decide) 103 (mj_bl_no rfl) (mj_fb_ok rfl) rfl ?_
                    refine mj_blk h.1 b_Sw_option_140 rfl trivial ?_
                    refine mj_callI h zGood hZ (ev_Op_init l D cA cz v m a b) iw_Op_init (Or.inl z4_24) ⟨(fun _ h => nomatch h), (fun _ h => nomatch h)⟩ d_Sw_option_149 rfl ⟨by decide, by decide⟩ ⟨by decide, by decide⟩ [(0, 103)] [] rfl rfl rfl rfl (Nat.le_of_ble_eq_true rfl) rfl ?_
                    rintro _ _ ⟨rfl, rfl⟩
                    refine mj_k9 rfl rfl rfl rfl rfl rfl rfl rfl ?_
                    refine mj_callV h zGood (ev_Ru_add_1 l D cA wy pt _ _ _ _ _ _ _) v_Ru_add l_Sw_option_152 d_Sw_option_152 rfl ⟨by decide, by decide⟩ ⟨by decide, by decide⟩ [(0, 100), (1, 101), (2, 102), (3, 103), (4, 104)] rfl rfl rfl rfl rfl rfl (Nat.le_of_ble_eq_true rfl) ?_
                    rintro _ _ ⟨rfl, rfl⟩
                    refine mj_k rfl rfl ?_
                    refine mj_blk h.1 b_Sw_option_155 rfl trivial ?_
                    refine mj_callV h zGood (ev_Ru_size l D cA wy pt 2) v_Ru_size l_Sw_option_157 d_Sw_option_157 rfl ⟨by decide, by decide⟩ ⟨by decide, by decide⟩ [(0, 100), (1, 101), (2, 102), (3, 103), (4, 104)] rfl rfl rfl rfl rfl rfl (Nat.le_of_ble_eq_true rfl) ?_
                    rintro _ _ ⟨rfl, rfl⟩
                    refine mj_k rfl rfl ?_
                    exact mj_iret h rfl d_Sw_option_160 (by decide) (by decide) ⟨rfl, rfl⟩
                  · exact absurd (by decide) h9
                · exact absurd hg.2.2.2.2.2.2.2 h8
            · exact absurd (Int32.not_lt.mp hg.2.2.2.2.2.1) h6
        · exact absurd (Int32.not_lt.mp hg.2.2.2.1) h4
    · exact absurd (Int32.not_lt.mp hg.2.1) h2
set_option maxRecDepth 100000 in
set_option maxHeartbeats 8000000 in
theorem ev_Sw_option_1_2 (l : Launch) (D : va_G) (cA : Nat → ClassId) (st : Bool) (wy pt : Int32) (cz : Nat) (v : Int64) (m a b : Int32) (hg : ¬ nI cz < 1 ∧ ¬ 6 < nI cz ∧ ¬ m < 0 ∧ ¬ 7 < m ∧ ¬ a < -80 ∧ ¬ 80 < a ∧ ¬ b < 0 ∧ b ≤ 80) : mj_EvZ zG l D cA m_Sw_option 2 80 1 7 [.ref 50, .int (nI cz), .long v, .int m, .int a, .int b] [(50, cSw st 1), (53, cRs [some 100, none, none, none, none, none]), (100, cRu 101 wy pt 2), (101, cOs [some 102, some 103, none])] [0, 40, 50, 51, 53, 60, 70, 100, 101, 102, 103] Z_0 (fun r1 w1 => r1 = some (.int (nI 3)) ∧ w1 = [(50, cSw st 1), (53, cRs [some 100, none, none, none, none, none]), (100, cRu 101 wy pt 3), (101, cOs [some 102, some 103, some 104])] ++ [(104, cOt (uNew cz v m a b))]) := by
  refine mj_evZ (lv := [(0, .ref 50), (1, .int (nI cz)), (2, .long v), (4, .int m), (5, .int a), (6, .int b)]) (by decide +kernel) (Nat.le_of_ble_eq_true rfl) rfl (fun X h hZ => ?_)
  refine mj_blk h.1 b_Sw_option_0 rfl trivial ?_
  refine mj_iclt h.1 (tgt := 11) d_Sw_option_2 (by decide) (fun h1 => ?_) (fun h1 => ?_)
  · exact absurd h1 hg.1
  · refine mj_blk h.1 b_Sw_option_5 rfl trivial ?_
    refine mj_icle h.1 (tgt := 21) d_Sw_option_8 (by decide) (fun h2 => ?_) (fun h2 => ?_)
    · refine mj_blk h.1 b_Sw_option_21 rfl trivial ?_
      refine mj_iflt h.1 (tgt := 33) d_Sw_option_23 (by decide) (fun h3 => ?_) (fun h3 => ?_)
      · exact absurd h3 hg.2.2.1
      · refine mj_blk h.1 b_Sw_option_26 rfl trivial ?_
        refine mj_icle h.1 (tgt := 43) d_Sw_option_30 (by decide) (fun h4 => ?_) (fun h4 => ?_)
        · refine mj_blk h.1 b_Sw_option_43 rfl trivial ?_
          refine mj_iclt h.1 (tgt := 57) d_Sw_option_47 (by decide) (fun h5 => ?_) (fun h5 => ?_)
          · exact absurd h5 hg.2.2.2.2.1
          · refine mj_blk h.1 b_Sw_option_50 rfl trivial ?_
            refine mj_icle h.1 (tgt := 67) d_Sw_option_54 (by decide) (fun h6 => ?_) (fun h6 => ?_)
            · refine mj_blk h.1 b_Sw_option_67 rfl trivial ?_
              refine mj_iflt h.1 (tgt := 79) d_Sw_option_69 (by decide) (fun h7 => ?_) (fun h7 => ?_)
              · exact absurd h7 hg.2.2.2.2.2.2.1
              · refine mj_blk h.1 b_Sw_option_72 rfl trivial ?_
                refine mj_icle h.1 (tgt := 89) d_Sw_option_76 (by decide) (fun h8 => ?_) (fun h8 => ?_)
                · refine mj_blk h.1 b_Sw_option_89 rfl trivial ?_
                  rw [show nI 1 - 1 = nI 0 from rfl]
                  refine mj_callV h zGood (ev_Sw_ruleAt l D cA st 1 (by decide) [some 100, none, none, none, none, none] 0 100 (by decide) rfl) v_Sw_ruleAt l_Sw_option_96 d_Sw_option_96 rfl ⟨by decide, by decide⟩ ⟨by decide, by decide⟩ [] rfl rfl rfl rfl rfl rfl (Nat.le_of_ble_eq_true rfl) ?_
                  rintro _ _ ⟨rfl, rfl⟩
                  refine mj_k rfl rfl ?_
                  refine mj_blk h.1 b_Sw_option_99 rfl trivial ?_
                  refine mj_ifnonnull_r h.1 d_Sw_option_103 (tgt := 116) (by decide) ?_
                  refine mj_blk h.1 b_Sw_option_116 rfl trivial ?_
                  refine mj_callV h zGood (ev_Ru_size l D cA wy pt 2) v_Ru_size l_Sw_option_118 d_Sw_option_118 rfl ⟨by decide, by decide⟩ ⟨by decide, by decide⟩ [(0, 100), (1, 101), (2, 102), (3, 103), (4, 104)] rfl rfl rfl rfl rfl rfl (Nat.le_of_ble_eq_true rfl) ?_
                  rintro _ _ ⟨rfl, rfl⟩
                  refine mj_k rfl rfl ?_
                  refine mj_blk h.1 b_Sw_option_121 rfl trivial ?_
                  refine mj_iclt h.1 (tgt := 135) d_Sw_option_122 (by decide) (fun h9 => ?_) (fun h9 => ?_)
                  · refine mj_blk h.1 b_Sw_option_135 rfl trivial ?_
                    refine mj_new h.1 (mj_rm h) (ci := 4) (fs := [.int 0, .int 0, .int 0, .int 0, .int 0, .long 0, .int 0]) rfl u_Op t_Op_ok z4_23 z3_17 z1_18 df_Op (fun _ => rfl) d_Sw_option_137 (by decide) (by decide) 104 (mj_bl_no rfl) (mj_fb_ok rfl) rfl ?_
                    refine mj_blk h.1 b_Sw_option_140 rfl trivial ?_
                    refine mj_callI h zGood hZ (ev_Op_init l D cA cz v m a b) iw_Op_init (Or.inl z4_24) ⟨(fun _ h => nomatch h), (fun _ h => nomatch h)⟩ d_Sw_option_149 rfl ⟨by decide, by decide⟩ ⟨by decide, by decide⟩ [(0, 104)] [] rfl rfl rfl rfl (Nat.le_of_ble_eq_true rfl) rfl ?_
                    rintro _ _ ⟨rfl, rfl⟩
                    refine mj_k9 rfl rfl rfl rfl rfl rfl rfl rfl ?_
                    refine mj_callV h zGood (ev_Ru_add_2 l D cA wy pt _ _ _ _ _ _ _) v_Ru_add l_Sw_option_152 d_Sw_option_152 rfl ⟨by decide, by decide⟩ ⟨by decide, by decide⟩ [(0, 100), (1, 101), (2, 102), (3, 103), (4, 104)] rfl rfl rfl rfl rfl rfl (Nat.le_of_ble_eq_true rfl) ?_
                    rintro _ _ ⟨rfl, rfl⟩
                    refine mj_k rfl rfl ?_
                    refine mj_blk h.1 b_Sw_option_155 rfl trivial ?_
                    refine mj_callV h zGood (ev_Ru_size l D cA wy pt 3) v_Ru_size l_Sw_option_157 d_Sw_option_157 rfl ⟨by decide, by decide⟩ ⟨by decide, by decide⟩ [(0, 100), (1, 101), (2, 102), (3, 103), (4, 104)] rfl rfl rfl rfl rfl rfl (Nat.le_of_ble_eq_true rfl) ?_
                    rintro _ _ ⟨rfl, rfl⟩
                    refine mj_k rfl rfl ?_
                    exact mj_iret h rfl d_Sw_option_160 (by decide) (by decide) ⟨rfl, rfl⟩
                  · exact absurd (by decide) h9
                · exact absurd hg.2.2.2.2.2.2.2 h8
            · exact absurd (Int32.not_lt.mp hg.2.2.2.2.2.1) h6
        · exact absurd (Int32.not_lt.mp hg.2.2.2.1) h4
    · exact absurd (Int32.not_lt.mp hg.2.1) h2
set_option maxRecDepth 100000 in
set_option maxHeartbeats 8000000 in
theorem ev_Sw_option_2_0 (l : Launch) (D : va_G) (cA : Nat → ClassId) (st : Bool) (wy pt : Int32) (cz : Nat) (v : Int64) (m a b : Int32) (hg : ¬ nI cz < 1 ∧ ¬ 6 < nI cz ∧ ¬ m < 0 ∧ ¬ 7 < m ∧ ¬ a < -80 ∧ ¬ 80 < a ∧ ¬ b < 0 ∧ b ≤ 80) : mj_EvZ zG l D cA m_Sw_option 2 80 1 7 [.ref 50, .int (nI cz), .long v, .int m, .int a, .int b] [(50, cSw st 2), (53, cRs [some 100, some 110, none, none, none, none]), (110, cRu 111 wy pt 0), (111, cOs [none, none, none])] [0, 40, 50, 51, 53, 60, 70, 100, 110, 111] Z_0 (fun r1 w1 => r1 = some (.int (nI 1)) ∧ w1 = [(50, cSw st 2), (53, cRs [some 100, some 110, none, none, none, none]), (110, cRu 111 wy pt 1), (111, cOs [some 112, none, none])] ++ [(112, cOt (uNew cz v m a b))]) := by
  refine mj_evZ (lv := [(0, .ref 50), (1, .int (nI cz)), (2, .long v), (4, .int m), (5, .int a), (6, .int b)]) (by decide +kernel) (Nat.le_of_ble_eq_true rfl) rfl (fun X h hZ => ?_)
  refine mj_blk h.1 b_Sw_option_0 rfl trivial ?_
  refine mj_iclt h.1 (tgt := 11) d_Sw_option_2 (by decide) (fun h1 => ?_) (fun h1 => ?_)
  · exact absurd h1 hg.1
  · refine mj_blk h.1 b_Sw_option_5 rfl trivial ?_
    refine mj_icle h.1 (tgt := 21) d_Sw_option_8 (by decide) (fun h2 => ?_) (fun h2 => ?_)
    · refine mj_blk h.1 b_Sw_option_21 rfl trivial ?_
      refine mj_iflt h.1 (tgt := 33) d_Sw_option_23 (by decide) (fun h3 => ?_) (fun h3 => ?_)
      · exact absurd h3 hg.2.2.1
      · refine mj_blk h.1 b_Sw_option_26 rfl trivial ?_
        refine mj_icle h.1 (tgt := 43) d_Sw_option_30 (by decide) (fun h4 => ?_) (fun h4 => ?_)
        · refine mj_blk h.1 b_Sw_option_43 rfl trivial ?_
          refine mj_iclt h.1 (tgt := 57) d_Sw_option_47 (by decide) (fun h5 => ?_) (fun h5 => ?_)
          · exact absurd h5 hg.2.2.2.2.1
          · refine mj_blk h.1 b_Sw_option_50 rfl trivial ?_
            refine mj_icle h.1 (tgt := 67) d_Sw_option_54 (by decide) (fun h6 => ?_) (fun h6 => ?_)
            · refine mj_blk h.1 b_Sw_option_67 rfl trivial ?_
              refine mj_iflt h.1 (tgt := 79) d_Sw_option_69 (by decide) (fun h7 => ?_) (fun h7 => ?_)
              · exact absurd h7 hg.2.2.2.2.2.2.1
              · refine mj_blk h.1 b_Sw_option_72 rfl trivial ?_
                refine mj_icle h.1 (tgt := 89) d_Sw_option_76 (by decide) (fun h8 => ?_) (fun h8 => ?_)
                · refine mj_blk h.1 b_Sw_option_89 rfl trivial ?_
                  rw [show nI 2 - 1 = nI 1 from rfl]
                  refine mj_callV h zGood (ev_Sw_ruleAt l D cA st 2 (by decide) [some 100, some 110, none, none, none, none] 1 110 (by decide) rfl) v_Sw_ruleAt l_Sw_option_96 d_Sw_option_96 rfl ⟨by decide, by decide⟩ ⟨by decide, by decide⟩ [] rfl rfl rfl rfl rfl rfl (Nat.le_of_ble_eq_true rfl) ?_
                  rintro _ _ ⟨rfl, rfl⟩
                  refine mj_k rfl rfl ?_
                  refine mj_blk h.1 b_Sw_option_99 rfl trivial ?_
                  refine mj_ifnonnull_r h.1 d_Sw_option_103 (tgt := 116) (by decide) ?_
                  refine mj_blk h.1 b_Sw_option_116 rfl trivial ?_
                  refine mj_callV h zGood (ev_Ru_size l D cA wy pt 0) v_Ru_size l_Sw_option_118 d_Sw_option_118 rfl ⟨by decide, by decide⟩ ⟨by decide, by decide⟩ [(0, 110), (1, 111), (2, 112), (3, 113), (4, 114)] rfl rfl rfl rfl rfl rfl (Nat.le_of_ble_eq_true rfl) ?_
                  rintro _ _ ⟨rfl, rfl⟩
                  refine mj_k rfl rfl ?_
                  refine mj_blk h.1 b_Sw_option_121 rfl trivial ?_
                  refine mj_iclt h.1 (tgt := 135) d_Sw_option_122 (by decide) (fun h9 => ?_) (fun h9 => ?_)
                  · refine mj_blk h.1 b_Sw_option_135 rfl trivial ?_
                    refine mj_new h.1 (mj_rm h) (ci := 4) (fs := [.int 0, .int 0, .int 0, .int 0, .int 0, .long 0, .int 0]) rfl u_Op t_Op_ok z4_23 z3_17 z1_18 df_Op (fun _ => rfl) d_Sw_option_137 (by decide) (by decide) 112 (mj_bl_no rfl) (mj_fb_ok rfl) rfl ?_
                    refine mj_blk h.1 b_Sw_option_140 rfl trivial ?_
                    refine mj_callI h zGood hZ (ev_Op_init l D cA cz v m a b) iw_Op_init (Or.inl z4_24) ⟨(fun _ h => nomatch h), (fun _ h => nomatch h)⟩ d_Sw_option_149 rfl ⟨by decide, by decide⟩ ⟨by decide, by decide⟩ [(0, 112)] [] rfl rfl rfl rfl (Nat.le_of_ble_eq_true rfl) rfl ?_
                    rintro _ _ ⟨rfl, rfl⟩
                    refine mj_k9 rfl rfl rfl rfl rfl rfl rfl rfl ?_
                    refine mj_callV h zGood (ev_Ru_add_0 l D cA wy pt _ _ _ _ _ _ _) v_Ru_add l_Sw_option_152 d_Sw_option_152 rfl ⟨by decide, by decide⟩ ⟨by decide, by decide⟩ [(0, 110), (1, 111), (2, 112), (3, 113), (4, 114)] rfl rfl rfl rfl rfl rfl (Nat.le_of_ble_eq_true rfl) ?_
                    rintro _ _ ⟨rfl, rfl⟩
                    refine mj_k rfl rfl ?_
                    refine mj_blk h.1 b_Sw_option_155 rfl trivial ?_
                    refine mj_callV h zGood (ev_Ru_size l D cA wy pt 1) v_Ru_size l_Sw_option_157 d_Sw_option_157 rfl ⟨by decide, by decide⟩ ⟨by decide, by decide⟩ [(0, 110), (1, 111), (2, 112), (3, 113), (4, 114)] rfl rfl rfl rfl rfl rfl (Nat.le_of_ble_eq_true rfl) ?_
                    rintro _ _ ⟨rfl, rfl⟩
                    refine mj_k rfl rfl ?_
                    exact mj_iret h rfl d_Sw_option_160 (by decide) (by decide) ⟨rfl, rfl⟩
                  · exact absurd (by decide) h9
                · exact absurd hg.2.2.2.2.2.2.2 h8
            · exact absurd (Int32.not_lt.mp hg.2.2.2.2.2.1) h6
        · exact absurd (Int32.not_lt.mp hg.2.2.2.1) h4
    · exact absurd (Int32.not_lt.mp hg.2.1) h2
set_option maxRecDepth 100000 in
set_option maxHeartbeats 8000000 in
theorem ev_Sw_option_2_1 (l : Launch) (D : va_G) (cA : Nat → ClassId) (st : Bool) (wy pt : Int32) (cz : Nat) (v : Int64) (m a b : Int32) (hg : ¬ nI cz < 1 ∧ ¬ 6 < nI cz ∧ ¬ m < 0 ∧ ¬ 7 < m ∧ ¬ a < -80 ∧ ¬ 80 < a ∧ ¬ b < 0 ∧ b ≤ 80) : mj_EvZ zG l D cA m_Sw_option 2 80 1 7 [.ref 50, .int (nI cz), .long v, .int m, .int a, .int b] [(50, cSw st 2), (53, cRs [some 100, some 110, none, none, none, none]), (110, cRu 111 wy pt 1), (111, cOs [some 112, none, none])] [0, 40, 50, 51, 53, 60, 70, 100, 110, 111, 112] Z_0 (fun r1 w1 => r1 = some (.int (nI 2)) ∧ w1 = [(50, cSw st 2), (53, cRs [some 100, some 110, none, none, none, none]), (110, cRu 111 wy pt 2), (111, cOs [some 112, some 113, none])] ++ [(113, cOt (uNew cz v m a b))]) := by
  refine mj_evZ (lv := [(0, .ref 50), (1, .int (nI cz)), (2, .long v), (4, .int m), (5, .int a), (6, .int b)]) (by decide +kernel) (Nat.le_of_ble_eq_true rfl) rfl (fun X h hZ => ?_)
  refine mj_blk h.1 b_Sw_option_0 rfl trivial ?_
  refine mj_iclt h.1 (tgt := 11) d_Sw_option_2 (by decide) (fun h1 => ?_) (fun h1 => ?_)
  · exact absurd h1 hg.1
  · refine mj_blk h.1 b_Sw_option_5 rfl trivial ?_
    refine mj_icle h.1 (tgt := 21) d_Sw_option_8 (by decide) (fun h2 => ?_) (fun h2 => ?_)
    · refine mj_blk h.1 b_Sw_option_21 rfl trivial ?_
      refine mj_iflt h.1 (tgt := 33) d_Sw_option_23 (by decide) (fun h3 => ?_) (fun h3 => ?_)
      · exact absurd h3 hg.2.2.1
      · refine mj_blk h.1 b_Sw_option_26 rfl trivial ?_
        refine mj_icle h.1 (tgt := 43) d_Sw_option_30 (by decide) (fun h4 => ?_) (fun h4 => ?_)
        · refine mj_blk h.1 b_Sw_option_43 rfl trivial ?_
          refine mj_iclt h.1 (tgt := 57) d_Sw_option_47 (by decide) (fun h5 => ?_) (fun h5 => ?_)
          · exact absurd h5 hg.2.2.2.2.1
          · refine mj_blk h.1 b_Sw_option_50 rfl trivial ?_
            refine mj_icle h.1 (tgt := 67) d_Sw_option_54 (by decide) (fun h6 => ?_) (fun h6 => ?_)
            · refine mj_blk h.1 b_Sw_option_67 rfl trivial ?_
              refine mj_iflt h.1 (tgt := 79) d_Sw_option_69 (by decide) (fun h7 => ?_) (fun h7 => ?_)
              · exact absurd h7 hg.2.2.2.2.2.2.1
              · refine mj_blk h.1 b_Sw_option_72 rfl trivial ?_
                refine mj_icle h.1 (tgt := 89) d_Sw_option_76 (by decide) (fun h8 => ?_) (fun h8 => ?_)
                · refine mj_blk h.1 b_Sw_option_89 rfl trivial ?_
                  rw [show nI 2 - 1 = nI 1 from rfl]
                  refine mj_callV h zGood (ev_Sw_ruleAt l D cA st 2 (by decide) [some 100, some 110, none, none, none, none] 1 110 (by decide) rfl) v_Sw_ruleAt l_Sw_option_96 d_Sw_option_96 rfl ⟨by decide, by decide⟩ ⟨by decide, by decide⟩ [] rfl rfl rfl rfl rfl rfl (Nat.le_of_ble_eq_true rfl) ?_
                  rintro _ _ ⟨rfl, rfl⟩
                  refine mj_k rfl rfl ?_
                  refine mj_blk h.1 b_Sw_option_99 rfl trivial ?_
                  refine mj_ifnonnull_r h.1 d_Sw_option_103 (tgt := 116) (by decide) ?_
                  refine mj_blk h.1 b_Sw_option_116 rfl trivial ?_
                  refine mj_callV h zGood (ev_Ru_size l D cA wy pt 1) v_Ru_size l_Sw_option_118 d_Sw_option_118 rfl ⟨by decide, by decide⟩ ⟨by decide, by decide⟩ [(0, 110), (1, 111), (2, 112), (3, 113), (4, 114)] rfl rfl rfl rfl rfl rfl (Nat.le_of_ble_eq_true rfl) ?_
                  rintro _ _ ⟨rfl, rfl⟩
                  refine mj_k rfl rfl ?_
                  refine mj_blk h.1 b_Sw_option_121 rfl trivial ?_
                  refine mj_iclt h.1 (tgt := 135) d_Sw_option_122 (by decide) (fun h9 => ?_) (fun h9 => ?_)
                  · refine mj_blk h.1 b_Sw_option_135 rfl trivial ?_
                    refine mj_new h.1 (mj_rm h) (ci := 4) (fs := [.int 0, .int 0, .int 0, .int 0, .int 0, .long 0, .int 0]) rfl u_Op t_Op_ok z4_23 z3_17 z1_18 df_Op (fun _ => rfl) d_Sw_option_137 (by decide) (by decide) 113 (mj_bl_no rfl) (mj_fb_ok rfl) rfl ?_
                    refine mj_blk h.1 b_Sw_option_140 rfl trivial ?_
                    refine mj_callI h zGood hZ (ev_Op_init l D cA cz v m a b) iw_Op_init (Or.inl z4_24) ⟨(fun _ h => nomatch h), (fun _ h => nomatch h)⟩ d_Sw_option_149 rfl ⟨by decide, by decide⟩ ⟨by decide, by decide⟩ [(0, 113)] [] rfl rfl rfl rfl (Nat.le_of_ble_eq_true rfl) rfl ?_
                    rintro _ _ ⟨rfl, rfl⟩
                    refine mj_k9 rfl rfl rfl rfl rfl rfl rfl rfl ?_
                    refine mj_callV h zGood (ev_Ru_add_1 l D cA wy pt _ _ _ _ _ _ _) v_Ru_add l_Sw_option_152 d_Sw_option_152 rfl ⟨by decide, by decide⟩ ⟨by decide, by decide⟩ [(0, 110), (1, 111), (2, 112), (3, 113), (4, 114)] rfl rfl rfl rfl rfl rfl (Nat.le_of_ble_eq_true rfl) ?_
                    rintro _ _ ⟨rfl, rfl⟩
                    refine mj_k rfl rfl ?_
                    refine mj_blk h.1 b_Sw_option_155 rfl trivial ?_
                    refine mj_callV h zGood (ev_Ru_size l D cA wy pt 2) v_Ru_size l_Sw_option_157 d_Sw_option_157 rfl ⟨by decide, by decide⟩ ⟨by decide, by decide⟩ [(0, 110), (1, 111), (2, 112), (3, 113), (4, 114)] rfl rfl rfl rfl rfl rfl (Nat.le_of_ble_eq_true rfl) ?_
                    rintro _ _ ⟨rfl, rfl⟩
                    refine mj_k rfl rfl ?_
                    exact mj_iret h rfl d_Sw_option_160 (by decide) (by decide) ⟨rfl, rfl⟩
                  · exact absurd (by decide) h9
                · exact absurd hg.2.2.2.2.2.2.2 h8
            · exact absurd (Int32.not_lt.mp hg.2.2.2.2.2.1) h6
        · exact absurd (Int32.not_lt.mp hg.2.2.2.1) h4
    · exact absurd (Int32.not_lt.mp hg.2.1) h2
set_option maxRecDepth 100000 in
set_option maxHeartbeats 8000000 in
theorem ev_Sw_option_2_2 (l : Launch) (D : va_G) (cA : Nat → ClassId) (st : Bool) (wy pt : Int32) (cz : Nat) (v : Int64) (m a b : Int32) (hg : ¬ nI cz < 1 ∧ ¬ 6 < nI cz ∧ ¬ m < 0 ∧ ¬ 7 < m ∧ ¬ a < -80 ∧ ¬ 80 < a ∧ ¬ b < 0 ∧ b ≤ 80) : mj_EvZ zG l D cA m_Sw_option 2 80 1 7 [.ref 50, .int (nI cz), .long v, .int m, .int a, .int b] [(50, cSw st 2), (53, cRs [some 100, some 110, none, none, none, none]), (110, cRu 111 wy pt 2), (111, cOs [some 112, some 113, none])] [0, 40, 50, 51, 53, 60, 70, 100, 110, 111, 112, 113] Z_0 (fun r1 w1 => r1 = some (.int (nI 3)) ∧ w1 = [(50, cSw st 2), (53, cRs [some 100, some 110, none, none, none, none]), (110, cRu 111 wy pt 3), (111, cOs [some 112, some 113, some 114])] ++ [(114, cOt (uNew cz v m a b))]) := by
  refine mj_evZ (lv := [(0, .ref 50), (1, .int (nI cz)), (2, .long v), (4, .int m), (5, .int a), (6, .int b)]) (by decide +kernel) (Nat.le_of_ble_eq_true rfl) rfl (fun X h hZ => ?_)
  refine mj_blk h.1 b_Sw_option_0 rfl trivial ?_
  refine mj_iclt h.1 (tgt := 11) d_Sw_option_2 (by decide) (fun h1 => ?_) (fun h1 => ?_)
  · exact absurd h1 hg.1
  · refine mj_blk h.1 b_Sw_option_5 rfl trivial ?_
    refine mj_icle h.1 (tgt := 21) d_Sw_option_8 (by decide) (fun h2 => ?_) (fun h2 => ?_)
    · refine mj_blk h.1 b_Sw_option_21 rfl trivial ?_
      refine mj_iflt h.1 (tgt := 33) d_Sw_option_23 (by decide) (fun h3 => ?_) (fun h3 => ?_)
      · exact absurd h3 hg.2.2.1
      · refine mj_blk h.1 b_Sw_option_26 rfl trivial ?_
        refine mj_icle h.1 (tgt := 43) d_Sw_option_30 (by decide) (fun h4 => ?_) (fun h4 => ?_)
        · refine mj_blk h.1 b_Sw_option_43 rfl trivial ?_
          refine mj_iclt h.1 (tgt := 57) d_Sw_option_47 (by decide) (fun h5 => ?_) (fun h5 => ?_)
          · exact absurd h5 hg.2.2.2.2.1
          · refine mj_blk h.1 b_Sw_option_50 rfl trivial ?_
            refine mj_icle h.1 (tgt := 67) d_Sw_option_54 (by decide) (fun h6 => ?_) (fun h6 => ?_)
            · refine mj_blk h.1 b_Sw_option_67 rfl trivial ?_
              refine mj_iflt h.1 (tgt := 79) d_Sw_option_69 (by decide) (fun h7 => ?_) (fun h7 => ?_)
              · exact absurd h7 hg.2.2.2.2.2.2.1
              · refine mj_blk h.1 b_Sw_option_72 rfl trivial ?_
                refine mj_icle h.1 (tgt := 89) d_Sw_option_76 (by decide) (fun h8 => ?_) (fun h8 => ?_)
                · refine mj_blk h.1 b_Sw_option_89 rfl trivial ?_
                  rw [show nI 2 - 1 = nI 1 from rfl]
                  refine mj_callV h zGood (ev_Sw_ruleAt l D cA st 2 (by decide) [some 100, some 110, none, none, none, none] 1 110 (by decide) rfl) v_Sw_ruleAt l_Sw_option_96 d_Sw_option_96 rfl ⟨by decide, by decide⟩ ⟨by decide, by decide⟩ [] rfl rfl rfl rfl rfl rfl (Nat.le_of_ble_eq_true rfl) ?_
                  rintro _ _ ⟨rfl, rfl⟩
                  refine mj_k rfl rfl ?_
                  refine mj_blk h.1 b_Sw_option_99 rfl trivial ?_
                  refine mj_ifnonnull_r h.1 d_Sw_option_103 (tgt := 116) (by decide) ?_
                  refine mj_blk h.1 b_Sw_option_116 rfl trivial ?_
                  refine mj_callV h zGood (ev_Ru_size l D cA wy pt 2) v_Ru_size l_Sw_option_118 d_Sw_option_118 rfl ⟨by decide, by decide⟩ ⟨by decide, by decide⟩ [(0, 110), (1, 111), (2, 112), (3, 113), (4, 114)] rfl rfl rfl rfl rfl rfl (Nat.le_of_ble_eq_true rfl) ?_
                  rintro _ _ ⟨rfl, rfl⟩
                  refine mj_k rfl rfl ?_
                  refine mj_blk h.1 b_Sw_option_121 rfl trivial ?_
                  refine mj_iclt h.1 (tgt := 135) d_Sw_option_122 (by decide) (fun h9 => ?_) (fun h9 => ?_)
                  · refine mj_blk h.1 b_Sw_option_135 rfl trivial ?_
                    refine mj_new h.1 (mj_rm h) (ci := 4) (fs := [.int 0, .int 0, .int 0, .int 0, .int 0, .long 0, .int 0]) rfl u_Op t_Op_ok z4_23 z3_17 z1_18 df_Op (fun _ => rfl) d_Sw_option_137 (by decide) (by decide) 114 (mj_bl_no rfl) (mj_fb_ok rfl) rfl ?_
                    refine mj_blk h.1 b_Sw_option_140 rfl trivial ?_
                    refine mj_callI h zGood hZ (ev_Op_init l D cA cz v m a b) iw_Op_init (Or.inl z4_24) ⟨(fun _ h => nomatch h), (fun _ h => nomatch h)⟩ d_Sw_option_149 rfl ⟨by decide, by decide⟩ ⟨by decide, by decide⟩ [(0, 114)] [] rfl rfl rfl rfl (Nat.le_of_ble_eq_true rfl) rfl ?_
                    rintro _ _ ⟨rfl, rfl⟩
                    refine mj_k9 rfl rfl rfl rfl rfl rfl rfl rfl ?_
                    refine mj_callV h zGood (ev_Ru_add_2 l D cA wy pt _ _ _ _ _ _ _) v_Ru_add l_Sw_option_152 d_Sw_option_152 rfl ⟨by decide, by decide⟩ ⟨by decide, by decide⟩ [(0, 110), (1, 111), (2, 112), (3, 113), (4, 114)] rfl rfl rfl rfl rfl rfl (Nat.le_of_ble_eq_true rfl) ?_
                    rintro _ _ ⟨rfl, rfl⟩
                    refine mj_k rfl rfl ?_
                    refine mj_blk h.1 b_Sw_option_155 rfl trivial ?_
                    refine mj_callV h zGood (ev_Ru_size l D cA wy pt 3) v_Ru_size l_Sw_option_157 d_Sw_option_157 rfl ⟨by decide, by decide⟩ ⟨by decide, by decide⟩ [(0, 110), (1, 111), (2, 112), (3, 113), (4, 114)] rfl rfl rfl rfl rfl rfl (Nat.le_of_ble_eq_true rfl) ?_
                    rintro _ _ ⟨rfl, rfl⟩
                    refine mj_k rfl rfl ?_
                    exact mj_iret h rfl d_Sw_option_160 (by decide) (by decide) ⟨rfl, rfl⟩
                  · exact absurd (by decide) h9
                · exact absurd hg.2.2.2.2.2.2.2 h8
            · exact absurd (Int32.not_lt.mp hg.2.2.2.2.2.1) h6
        · exact absurd (Int32.not_lt.mp hg.2.2.2.1) h4
    · exact absurd (Int32.not_lt.mp hg.2.1) h2
set_option maxRecDepth 100000 in
set_option maxHeartbeats 8000000 in
theorem ev_Sw_option_3_0 (l : Launch) (D : va_G) (cA : Nat → ClassId) (st : Bool) (wy pt : Int32) (cz : Nat) (v : Int64) (m a b : Int32) (hg : ¬ nI cz < 1 ∧ ¬ 6 < nI cz ∧ ¬ m < 0 ∧ ¬ 7 < m ∧ ¬ a < -80 ∧ ¬ 80 < a ∧ ¬ b < 0 ∧ b ≤ 80) : mj_EvZ zG l D cA m_Sw_option 2 80 1 7 [.ref 50, .int (nI cz), .long v, .int m, .int a, .int b] [(50, cSw st 3), (53, cRs [some 100, some 110, some 120, none, none, none]), (120, cRu 121 wy pt 0), (121, cOs [none, none, none])] [0, 40, 50, 51, 53, 60, 70, 100, 110, 120, 121] Z_0 (fun r1 w1 => r1 = some (.int (nI 1)) ∧ w1 = [(50, cSw st 3), (53, cRs [some 100, some 110, some 120, none, none, none]), (120, cRu 121 wy pt 1), (121, cOs [some 122, none, none])] ++ [(122, cOt (uNew cz v m a b))]) := by
  refine mj_evZ (lv := [(0, .ref 50), (1, .int (nI cz)), (2, .long v), (4, .int m), (5, .int a), (6, .int b)]) (by decide +kernel) (Nat.le_of_ble_eq_true rfl) rfl (fun X h hZ => ?_)
  refine mj_blk h.1 b_Sw_option_0 rfl trivial ?_
  refine mj_iclt h.1 (tgt := 11) d_Sw_option_2 (by decide) (fun h1 => ?_) (fun h1 => ?_)
  · exact absurd h1 hg.1
  · refine mj_blk h.1 b_Sw_option_5 rfl trivial ?_
    refine mj_icle h.1 (tgt := 21) d_Sw_option_8 (by decide) (fun h2 => ?_) (fun h2 => ?_)
    · refine mj_blk h.1 b_Sw_option_21 rfl trivial ?_
      refine mj_iflt h.1 (tgt := 33) d_Sw_option_23 (by decide) (fun h3 => ?_) (fun h3 => ?_)
      · exact absurd h3 hg.2.2.1
      · refine mj_blk h.1 b_Sw_option_26 rfl trivial ?_
        refine mj_icle h.1 (tgt := 43) d_Sw_option_30 (by decide) (fun h4 => ?_) (fun h4 => ?_)
        · refine mj_blk h.1 b_Sw_option_43 rfl trivial ?_
          refine mj_iclt h.1 (tgt := 57) d_Sw_option_47 (by decide) (fun h5 => ?_) (fun h5 => ?_)
          · exact absurd h5 hg.2.2.2.2.1
          · refine mj_blk h.1 b_Sw_option_50 rfl trivial ?_
            refine mj_icle h.1 (tgt := 67) d_Sw_option_54 (by decide) (fun h6 => ?_) (fun h6 => ?_)
            · refine mj_blk h.1 b_Sw_option_67 rfl trivial ?_
              refine mj_iflt h.1 (tgt := 79) d_Sw_option_69 (by decide) (fun h7 => ?_) (fun h7 => ?_)
              · exact absurd h7 hg.2.2.2.2.2.2.1
              · refine mj_blk h.1 b_Sw_option_72 rfl trivial ?_
                refine mj_icle h.1 (tgt := 89) d_Sw_option_76 (by decide) (fun h8 => ?_) (fun h8 => ?_)
                · refine mj_blk h.1 b_Sw_option_89 rfl trivial ?_
                  rw [show nI 3 - 1 = nI 2 from rfl]
                  refine mj_callV h zGood (ev_Sw_ruleAt l D cA st 3 (by decide) [some 100, some 110, some 120, none, none, none] 2 120 (by decide) rfl) v_Sw_ruleAt l_Sw_option_96 d_Sw_option_96 rfl ⟨by decide, by decide⟩ ⟨by decide, by decide⟩ [] rfl rfl rfl rfl rfl rfl (Nat.le_of_ble_eq_true rfl) ?_
                  rintro _ _ ⟨rfl, rfl⟩
                  refine mj_k rfl rfl ?_
                  refine mj_blk h.1 b_Sw_option_99 rfl trivial ?_
                  refine mj_ifnonnull_r h.1 d_Sw_option_103 (tgt := 116) (by decide) ?_
                  refine mj_blk h.1 b_Sw_option_116 rfl trivial ?_
                  refine mj_callV h zGood (ev_Ru_size l D cA wy pt 0) v_Ru_size l_Sw_option_118 d_Sw_option_118 rfl ⟨by decide, by decide⟩ ⟨by decide, by decide⟩ [(0, 120), (1, 121), (2, 122), (3, 123), (4, 124)] rfl rfl rfl rfl rfl rfl (Nat.le_of_ble_eq_true rfl) ?_
                  rintro _ _ ⟨rfl, rfl⟩
                  refine mj_k rfl rfl ?_
                  refine mj_blk h.1 b_Sw_option_121 rfl trivial ?_
                  refine mj_iclt h.1 (tgt := 135) d_Sw_option_122 (by decide) (fun h9 => ?_) (fun h9 => ?_)
                  · refine mj_blk h.1 b_Sw_option_135 rfl trivial ?_
                    refine mj_new h.1 (mj_rm h) (ci := 4) (fs := [.int 0, .int 0, .int 0, .int 0, .int 0, .long 0, .int 0]) rfl u_Op t_Op_ok z4_23 z3_17 z1_18 df_Op (fun _ => rfl) d_Sw_option_137 (by decide) (by decide) 122 (mj_bl_no rfl) (mj_fb_ok rfl) rfl ?_
                    refine mj_blk h.1 b_Sw_option_140 rfl trivial ?_
                    refine mj_callI h zGood hZ (ev_Op_init l D cA cz v m a b) iw_Op_init (Or.inl z4_24) ⟨(fun _ h => nomatch h), (fun _ h => nomatch h)⟩ d_Sw_option_149 rfl ⟨by decide, by decide⟩ ⟨by decide, by decide⟩ [(0, 122)] [] rfl rfl rfl rfl (Nat.le_of_ble_eq_true rfl) rfl ?_
                    rintro _ _ ⟨rfl, rfl⟩
                    refine mj_k9 rfl rfl rfl rfl rfl rfl rfl rfl ?_
                    refine mj_callV h zGood (ev_Ru_add_0 l D cA wy pt _ _ _ _ _ _ _) v_Ru_add l_Sw_option_152 d_Sw_option_152 rfl ⟨by decide, by decide⟩ ⟨by decide, by decide⟩ [(0, 120), (1, 121), (2, 122), (3, 123), (4, 124)] rfl rfl rfl rfl rfl rfl (Nat.le_of_ble_eq_true rfl) ?_
                    rintro _ _ ⟨rfl, rfl⟩
                    refine mj_k rfl rfl ?_
                    refine mj_blk h.1 b_Sw_option_155 rfl trivial ?_
                    refine mj_callV h zGood (ev_Ru_size l D cA wy pt 1) v_Ru_size l_Sw_option_157 d_Sw_option_157 rfl ⟨by decide, by decide⟩ ⟨by decide, by decide⟩ [(0, 120), (1, 121), (2, 122), (3, 123), (4, 124)] rfl rfl rfl rfl rfl rfl (Nat.le_of_ble_eq_true rfl) ?_
                    rintro _ _ ⟨rfl, rfl⟩
                    refine mj_k rfl rfl ?_
                    exact mj_iret h rfl d_Sw_option_160 (by decide) (by decide) ⟨rfl, rfl⟩
                  · exact absurd (by decide) h9
                · exact absurd hg.2.2.2.2.2.2.2 h8
            · exact absurd (Int32.not_lt.mp hg.2.2.2.2.2.1) h6
        · exact absurd (Int32.not_lt.mp hg.2.2.2.1) h4
    · exact absurd (Int32.not_lt.mp hg.2.1) h2
set_option maxRecDepth 100000 in
set_option maxHeartbeats 8000000 in
theorem ev_Sw_option_3_1 (l : Launch) (D : va_G) (cA : Nat → ClassId) (st : Bool) (wy pt : Int32) (cz : Nat) (v : Int64) (m a b : Int32) (hg : ¬ nI cz < 1 ∧ ¬ 6 < nI cz ∧ ¬ m < 0 ∧ ¬ 7 < m ∧ ¬ a < -80 ∧ ¬ 80 < a ∧ ¬ b < 0 ∧ b ≤ 80) : mj_EvZ zG l D cA m_Sw_option 2 80 1 7 [.ref 50, .int (nI cz), .long v, .int m, .int a, .int b] [(50, cSw st 3), (53, cRs [some 100, some 110, some 120, none, none, none]), (120, cRu 121 wy pt 1), (121, cOs [some 122, none, none])] [0, 40, 50, 51, 53, 60, 70, 100, 110, 120, 121, 122] Z_0 (fun r1 w1 => r1 = some (.int (nI 2)) ∧ w1 = [(50, cSw st 3), (53, cRs [some 100, some 110, some 120, none, none, none]), (120, cRu 121 wy pt 2), (121, cOs [some 122, some 123, none])] ++ [(123, cOt (uNew cz v m a b))]) := by
  refine mj_evZ (lv := [(0, .ref 50), (1, .int (nI cz)), (2, .long v), (4, .int m), (5, .int a), (6, .int b)]) (by decide +kernel) (Nat.le_of_ble_eq_true rfl) rfl (fun X h hZ => ?_)
  refine mj_blk h.1 b_Sw_option_0 rfl trivial ?_
  refine mj_iclt h.1 (tgt := 11) d_Sw_option_2 (by decide) (fun h1 => ?_) (fun h1 => ?_)
  · exact absurd h1 hg.1
  · refine mj_blk h.1 b_Sw_option_5 rfl trivial ?_
    refine mj_icle h.1 (tgt := 21) d_Sw_option_8 (by decide) (fun h2 => ?_) (fun h2 => ?_)
    · refine mj_blk h.1 b_Sw_option_21 rfl trivial ?_
      refine mj_iflt h.1 (tgt := 33) d_Sw_option_23 (by decide) (fun h3 => ?_) (fun h3 => ?_)
      · exact absurd h3 hg.2.2.1
      · refine mj_blk h.1 b_Sw_option_26 rfl trivial ?_
        refine mj_icle h.1 (tgt := 43) d_Sw_option_30 (by decide) (fun h4 => ?_) (fun h4 => ?_)
        · refine mj_blk h.1 b_Sw_option_43 rfl trivial ?_
          refine mj_iclt h.1 (tgt := 57) d_Sw_option_47 (by decide) (fun h5 => ?_) (fun h5 => ?_)
          · exact absurd h5 hg.2.2.2.2.1
          · refine mj_blk h.1 b_Sw_option_50 rfl trivial ?_
            refine mj_icle h.1 (tgt := 67) d_Sw_option_54 (by decide) (fun h6 => ?_) (fun h6 => ?_)
            · refine mj_blk h.1 b_Sw_option_67 rfl trivial ?_
              refine mj_iflt h.1 (tgt := 79) d_Sw_option_69 (by decide) (fun h7 => ?_) (fun h7 => ?_)
              · exact absurd h7 hg.2.2.2.2.2.2.1
              · refine mj_blk h.1 b_Sw_option_72 rfl trivial ?_
                refine mj_icle h.1 (tgt := 89) d_Sw_option_76 (by decide) (fun h8 => ?_) (fun h8 => ?_)
                · refine mj_blk h.1 b_Sw_option_89 rfl trivial ?_
                  rw [show nI 3 - 1 = nI 2 from rfl]
                  refine mj_callV h zGood (ev_Sw_ruleAt l D cA st 3 (by decide) [some 100, some 110, some 120, none, none, none] 2 120 (by decide) rfl) v_Sw_ruleAt l_Sw_option_96 d_Sw_option_96 rfl ⟨by decide, by decide⟩ ⟨by decide, by decide⟩ [] rfl rfl rfl rfl rfl rfl (Nat.le_of_ble_eq_true rfl) ?_
                  rintro _ _ ⟨rfl, rfl⟩
                  refine mj_k rfl rfl ?_
                  refine mj_blk h.1 b_Sw_option_99 rfl trivial ?_
                  refine mj_ifnonnull_r h.1 d_Sw_option_103 (tgt := 116) (by decide) ?_
                  refine mj_blk h.1 b_Sw_option_116 rfl trivial ?_
                  refine mj_callV h zGood (ev_Ru_size l D cA wy pt 1) v_Ru_size l_Sw_option_118 d_Sw_option_118 rfl ⟨by decide, by decide⟩ ⟨by decide, by decide⟩ [(0, 120), (1, 121), (2, 122), (3, 123), (4, 124)] rfl rfl rfl rfl rfl rfl (Nat.le_of_ble_eq_true rfl) ?_
                  rintro _ _ ⟨rfl, rfl⟩
                  refine mj_k rfl rfl ?_
                  refine mj_blk h.1 b_Sw_option_121 rfl trivial ?_
                  refine mj_iclt h.1 (tgt := 135) d_Sw_option_122 (by decide) (fun h9 => ?_) (fun h9 => ?_)
                  · refine mj_blk h.1 b_Sw_option_135 rfl trivial ?_
                    refine mj_new h.1 (mj_rm h) (ci := 4) (fs := [.int 0, .int 0, .int 0, .int 0, .int 0, .long 0, .int 0]) rfl u_Op t_Op_ok z4_23 z3_17 z1_18 df_Op (fun _ => rfl) d_Sw_option_137 (by decide) (by decide) 123 (mj_bl_no rfl) (mj_fb_ok rfl) rfl ?_
                    refine mj_blk h.1 b_Sw_option_140 rfl trivial ?_
                    refine mj_callI h zGood hZ (ev_Op_init l D cA cz v m a b) iw_Op_init (Or.inl z4_24) ⟨(fun _ h => nomatch h), (fun _ h => nomatch h)⟩ d_Sw_option_149 rfl ⟨by decide, by decide⟩ ⟨by decide, by decide⟩ [(0, 123)] [] rfl rfl rfl rfl (Nat.le_of_ble_eq_true rfl) rfl ?_
                    rintro _ _ ⟨rfl, rfl⟩
                    refine mj_k9 rfl rfl rfl rfl rfl rfl rfl rfl ?_
                    refine mj_callV h zGood (ev_Ru_add_1 l D cA wy pt _ _ _ _ _ _ _) v_Ru_add l_Sw_option_152 d_Sw_option_152 rfl ⟨by decide, by decide⟩ ⟨by decide, by decide⟩ [(0, 120), (1, 121), (2, 122), (3, 123), (4, 124)] rfl rfl rfl rfl rfl rfl (Nat.le_of_ble_eq_true rfl) ?_
                    rintro _ _ ⟨rfl, rfl⟩
                    refine mj_k rfl rfl ?_
                    refine mj_blk h.1 b_Sw_option_155 rfl trivial ?_
                    refine mj_callV h zGood (ev_Ru_size l D cA wy pt 2) v_Ru_size l_Sw_option_157 d_Sw_option_157 rfl ⟨by decide, by decide⟩ ⟨by decide, by decide⟩ [(0, 120), (1, 121), (2, 122), (3, 123), (4, 124)] rfl rfl rfl rfl rfl rfl (Nat.le_of_ble_eq_true rfl) ?_
                    rintro _ _ ⟨rfl, rfl⟩
                    refine mj_k rfl rfl ?_
                    exact mj_iret h rfl d_Sw_option_160 (by decide) (by decide) ⟨rfl, rfl⟩
                  · exact absurd (by decide) h9
                · exact absurd hg.2.2.2.2.2.2.2 h8
            · exact absurd (Int32.not_lt.mp hg.2.2.2.2.2.1) h6
        · exact absurd (Int32.not_lt.mp hg.2.2.2.1) h4
    · exact absurd (Int32.not_lt.mp hg.2.1) h2
set_option maxRecDepth 100000 in
set_option maxHeartbeats 8000000 in
theorem ev_Sw_option_3_2 (l : Launch) (D : va_G) (cA : Nat → ClassId) (st : Bool) (wy pt : Int32) (cz : Nat) (v : Int64) (m a b : Int32) (hg : ¬ nI cz < 1 ∧ ¬ 6 < nI cz ∧ ¬ m < 0 ∧ ¬ 7 < m ∧ ¬ a < -80 ∧ ¬ 80 < a ∧ ¬ b < 0 ∧ b ≤ 80) : mj_EvZ zG l D cA m_Sw_option 2 80 1 7 [.ref 50, .int (nI cz), .long v, .int m, .int a, .int b] [(50, cSw st 3), (53, cRs [some 100, some 110, some 120, none, none, none]), (120, cRu 121 wy pt 2), (121, cOs [some 122, some 123, none])] [0, 40, 50, 51, 53, 60, 70, 100, 110, 120, 121, 122, 123] Z_0 (fun r1 w1 => r1 = some (.int (nI 3)) ∧ w1 = [(50, cSw st 3), (53, cRs [some 100, some 110, some 120, none, none, none]), (120, cRu 121 wy pt 3), (121, cOs [some 122, some 123, some 124])] ++ [(124, cOt (uNew cz v m a b))]) := by
  refine mj_evZ (lv := [(0, .ref 50), (1, .int (nI cz)), (2, .long v), (4, .int m), (5, .int a), (6, .int b)]) (by decide +kernel) (Nat.le_of_ble_eq_true rfl) rfl (fun X h hZ => ?_)
  refine mj_blk h.1 b_Sw_option_0 rfl trivial ?_
  refine mj_iclt h.1 (tgt := 11) d_Sw_option_2 (by decide) (fun h1 => ?_) (fun h1 => ?_)
  · exact absurd h1 hg.1
  · refine mj_blk h.1 b_Sw_option_5 rfl trivial ?_
    refine mj_icle h.1 (tgt := 21) d_Sw_option_8 (by decide) (fun h2 => ?_) (fun h2 => ?_)
    · refine mj_blk h.1 b_Sw_option_21 rfl trivial ?_
      refine mj_iflt h.1 (tgt := 33) d_Sw_option_23 (by decide) (fun h3 => ?_) (fun h3 => ?_)
      · exact absurd h3 hg.2.2.1
      · refine mj_blk h.1 b_Sw_option_26 rfl trivial ?_
        refine mj_icle h.1 (tgt := 43) d_Sw_option_30 (by decide) (fun h4 => ?_) (fun h4 => ?_)
        · refine mj_blk h.1 b_Sw_option_43 rfl trivial ?_
          refine mj_iclt h.1 (tgt := 57) d_Sw_option_47 (by decide) (fun h5 => ?_) (fun h5 => ?_)
          · exact absurd h5 hg.2.2.2.2.1
          · refine mj_blk h.1 b_Sw_option_50 rfl trivial ?_
            refine mj_icle h.1 (tgt := 67) d_Sw_option_54 (by decide) (fun h6 => ?_) (fun h6 => ?_)
            · refine mj_blk h.1 b_Sw_option_67 rfl trivial ?_
              refine mj_iflt h.1 (tgt := 79) d_Sw_option_69 (by decide) (fun h7 => ?_) (fun h7 => ?_)
              · exact absurd h7 hg.2.2.2.2.2.2.1
              · refine mj_blk h.1 b_Sw_option_72 rfl trivial ?_
                refine mj_icle h.1 (tgt := 89) d_Sw_option_76 (by decide) (fun h8 => ?_) (fun h8 => ?_)
                · refine mj_blk h.1 b_Sw_option_89 rfl trivial ?_
                  rw [show nI 3 - 1 = nI 2 from rfl]
                  refine mj_callV h zGood (ev_Sw_ruleAt l D cA st 3 (by decide) [some 100, some 110, some 120, none, none, none] 2 120 (by decide) rfl) v_Sw_ruleAt l_Sw_option_96 d_Sw_option_96 rfl ⟨by decide, by decide⟩ ⟨by decide, by decide⟩ [] rfl rfl rfl rfl rfl rfl (Nat.le_of_ble_eq_true rfl) ?_
                  rintro _ _ ⟨rfl, rfl⟩
                  refine mj_k rfl rfl ?_
                  refine mj_blk h.1 b_Sw_option_99 rfl trivial ?_
                  refine mj_ifnonnull_r h.1 d_Sw_option_103 (tgt := 116) (by decide) ?_
                  refine mj_blk h.1 b_Sw_option_116 rfl trivial ?_
                  refine mj_callV h zGood (ev_Ru_size l D cA wy pt 2) v_Ru_size l_Sw_option_118 d_Sw_option_118 rfl ⟨by decide, by decide⟩ ⟨by decide, by decide⟩ [(0, 120), (1, 121), (2, 122), (3, 123), (4, 124)] rfl rfl rfl rfl rfl rfl (Nat.le_of_ble_eq_true rfl) ?_
                  rintro _ _ ⟨rfl, rfl⟩
                  refine mj_k rfl rfl ?_
                  refine mj_blk h.1 b_Sw_option_121 rfl trivial ?_
                  refine mj_iclt h.1 (tgt := 135) d_Sw_option_122 (by decide) (fun h9 => ?_) (fun h9 => ?_)
                  · refine mj_blk h.1 b_Sw_option_135 rfl trivial ?_
                    refine mj_new h.1 (mj_rm h) (ci := 4) (fs := [.int 0, .int 0, .int 0, .int 0, .int 0, .long 0, .int 0]) rfl u_Op t_Op_ok z4_23 z3_17 z1_18 df_Op (fun _ => rfl) d_Sw_option_137 (by decide) (by decide) 124 (mj_bl_no rfl) (mj_fb_ok rfl) rfl ?_
                    refine mj_blk h.1 b_Sw_option_140 rfl trivial ?_
                    refine mj_callI h zGood hZ (ev_Op_init l D cA cz v m a b) iw_Op_init (Or.inl z4_24) ⟨(fun _ h => nomatch h), (fun _ h => nomatch h)⟩ d_Sw_option_149 rfl ⟨by decide, by decide⟩ ⟨by decide, by decide⟩ [(0, 124)] [] rfl rfl rfl rfl (Nat.le_of_ble_eq_true rfl) rfl ?_
                    rintro _ _ ⟨rfl, rfl⟩
                    refine mj_k9 rfl rfl rfl rfl rfl rfl rfl rfl ?_
                    refine mj_callV h zGood (ev_Ru_add_2 l D cA wy pt _ _ _ _ _ _ _) v_Ru_add l_Sw_option_152 d_Sw_option_152 rfl ⟨by decide, by decide⟩ ⟨by decide, by decide⟩ [(0, 120), (1, 121), (2, 122), (3, 123), (4, 124)] rfl rfl rfl rfl rfl rfl (Nat.le_of_ble_eq_true rfl) ?_
                    rintro _ _ ⟨rfl, rfl⟩
                    refine mj_k rfl rfl ?_
                    refine mj_blk h.1 b_Sw_option_155 rfl trivial ?_
                    refine mj_callV h zGood (ev_Ru_size l D cA wy pt 3) v_Ru_size l_Sw_option_157 d_Sw_option_157 rfl ⟨by decide, by decide⟩ ⟨by decide, by decide⟩ [(0, 120), (1, 121), (2, 122), (3, 123), (4, 124)] rfl rfl rfl rfl rfl rfl (Nat.le_of_ble_eq_true rfl) ?_
                    rintro _ _ ⟨rfl, rfl⟩
                    refine mj_k rfl rfl ?_
                    exact mj_iret h rfl d_Sw_option_160 (by decide) (by decide) ⟨rfl, rfl⟩
                  · exact absurd (by decide) h9
                · exact absurd hg.2.2.2.2.2.2.2 h8
            · exact absurd (Int32.not_lt.mp hg.2.2.2.2.2.1) h6
        · exact absurd (Int32.not_lt.mp hg.2.2.2.1) h4
    · exact absurd (Int32.not_lt.mp hg.2.1) h2
set_option maxRecDepth 100000 in
set_option maxHeartbeats 8000000 in
theorem ev_Sw_option_4_0 (l : Launch) (D : va_G) (cA : Nat → ClassId) (st : Bool) (wy pt : Int32) (cz : Nat) (v : Int64) (m a b : Int32) (hg : ¬ nI cz < 1 ∧ ¬ 6 < nI cz ∧ ¬ m < 0 ∧ ¬ 7 < m ∧ ¬ a < -80 ∧ ¬ 80 < a ∧ ¬ b < 0 ∧ b ≤ 80) : mj_EvZ zG l D cA m_Sw_option 2 80 1 7 [.ref 50, .int (nI cz), .long v, .int m, .int a, .int b] [(50, cSw st 4), (53, cRs [some 100, some 110, some 120, some 130, none, none]), (130, cRu 131 wy pt 0), (131, cOs [none, none, none])] [0, 40, 50, 51, 53, 60, 70, 100, 110, 120, 130, 131] Z_0 (fun r1 w1 => r1 = some (.int (nI 1)) ∧ w1 = [(50, cSw st 4), (53, cRs [some 100, some 110, some 120, some 130, none, none]), (130, cRu 131 wy pt 1), (131, cOs [some 132, none, none])] ++ [(132, cOt (uNew cz v m a b))]) := by
  refine mj_evZ (lv := [(0, .ref 50), (1, .int (nI cz)), (2, .long v), (4, .int m), (5, .int a), (6, .int b)]) (by decide +kernel) (Nat.le_of_ble_eq_true rfl) rfl (fun X h hZ => ?_)
  refine mj_blk h.1 b_Sw_option_0 rfl trivial ?_
  refine mj_iclt h.1 (tgt := 11) d_Sw_option_2 (by decide) (fun h1 => ?_) (fun h1 => ?_)
  · exact absurd h1 hg.1
  · refine mj_blk h.1 b_Sw_option_5 rfl trivial ?_
    refine mj_icle h.1 (tgt := 21) d_Sw_option_8 (by decide) (fun h2 => ?_) (fun h2 => ?_)
    · refine mj_blk h.1 b_Sw_option_21 rfl trivial ?_
      refine mj_iflt h.1 (tgt := 33) d_Sw_option_23 (by decide) (fun h3 => ?_) (fun h3 => ?_)
      · exact absurd h3 hg.2.2.1
      · refine mj_blk h.1 b_Sw_option_26 rfl trivial ?_
        refine mj_icle h.1 (tgt := 43) d_Sw_option_30 (by decide) (fun h4 => ?_) (fun h4 => ?_)
        · refine mj_blk h.1 b_Sw_option_43 rfl trivial ?_
          refine mj_iclt h.1 (tgt := 57) d_Sw_option_47 (by decide) (fun h5 => ?_) (fun h5 => ?_)
          · exact absurd h5 hg.2.2.2.2.1
          · refine mj_blk h.1 b_Sw_option_50 rfl trivial ?_
            refine mj_icle h.1 (tgt := 67) d_Sw_option_54 (by decide) (fun h6 => ?_) (fun h6 => ?_)
            · refine mj_blk h.1 b_Sw_option_67 rfl trivial ?_
              refine mj_iflt h.1 (tgt := 79) d_Sw_option_69 (by decide) (fun h7 => ?_) (fun h7 => ?_)
              · exact absurd h7 hg.2.2.2.2.2.2.1
              · refine mj_blk h.1 b_Sw_option_72 rfl trivial ?_
                refine mj_icle h.1 (tgt := 89) d_Sw_option_76 (by decide) (fun h8 => ?_) (fun h8 => ?_)
                · refine mj_blk h.1 b_Sw_option_89 rfl trivial ?_
                  rw [show nI 4 - 1 = nI 3 from rfl]
                  refine mj_callV h zGood (ev_Sw_ruleAt l D cA st 4 (by decide) [some 100, some 110, some 120, some 130, none, none] 3 130 (by decide) rfl) v_Sw_ruleAt l_Sw_option_96 d_Sw_option_96 rfl ⟨by decide, by decide⟩ ⟨by decide, by decide⟩ [] rfl rfl rfl rfl rfl rfl (Nat.le_of_ble_eq_true rfl) ?_
                  rintro _ _ ⟨rfl, rfl⟩
                  refine mj_k rfl rfl ?_
                  refine mj_blk h.1 b_Sw_option_99 rfl trivial ?_
                  refine mj_ifnonnull_r h.1 d_Sw_option_103 (tgt := 116) (by decide) ?_
                  refine mj_blk h.1 b_Sw_option_116 rfl trivial ?_
                  refine mj_callV h zGood (ev_Ru_size l D cA wy pt 0) v_Ru_size l_Sw_option_118 d_Sw_option_118 rfl ⟨by decide, by decide⟩ ⟨by decide, by decide⟩ [(0, 130), (1, 131), (2, 132), (3, 133), (4, 134)] rfl rfl rfl rfl rfl rfl (Nat.le_of_ble_eq_true rfl) ?_
                  rintro _ _ ⟨rfl, rfl⟩
                  refine mj_k rfl rfl ?_
                  refine mj_blk h.1 b_Sw_option_121 rfl trivial ?_
                  refine mj_iclt h.1 (tgt := 135) d_Sw_option_122 (by decide) (fun h9 => ?_) (fun h9 => ?_)
                  · refine mj_blk h.1 b_Sw_option_135 rfl trivial ?_
                    refine mj_new h.1 (mj_rm h) (ci := 4) (fs := [.int 0, .int 0, .int 0, .int 0, .int 0, .long 0, .int 0]) rfl u_Op t_Op_ok z4_23 z3_17 z1_18 df_Op (fun _ => rfl) d_Sw_option_137 (by decide) (by decide) 132 (mj_bl_no rfl) (mj_fb_ok rfl) rfl ?_
                    refine mj_blk h.1 b_Sw_option_140 rfl trivial ?_
                    refine mj_callI h zGood hZ (ev_Op_init l D cA cz v m a b) iw_Op_init (Or.inl z4_24) ⟨(fun _ h => nomatch h), (fun _ h => nomatch h)⟩ d_Sw_option_149 rfl ⟨by decide, by decide⟩ ⟨by decide, by decide⟩ [(0, 132)] [] rfl rfl rfl rfl (Nat.le_of_ble_eq_true rfl) rfl ?_
                    rintro _ _ ⟨rfl, rfl⟩
                    refine mj_k9 rfl rfl rfl rfl rfl rfl rfl rfl ?_
                    refine mj_callV h zGood (ev_Ru_add_0 l D cA wy pt _ _ _ _ _ _ _) v_Ru_add l_Sw_option_152 d_Sw_option_152 rfl ⟨by decide, by decide⟩ ⟨by decide, by decide⟩ [(0, 130), (1, 131), (2, 132), (3, 133), (4, 134)] rfl rfl rfl rfl rfl rfl (Nat.le_of_ble_eq_true rfl) ?_
                    rintro _ _ ⟨rfl, rfl⟩
                    refine mj_k rfl rfl ?_
                    refine mj_blk h.1 b_Sw_option_155 rfl trivial ?_
                    refine mj_callV h zGood (ev_Ru_size l D cA wy pt 1) v_Ru_size l_Sw_option_157 d_Sw_option_157 rfl ⟨by decide, by decide⟩ ⟨by decide, by decide⟩ [(0, 130), (1, 131), (2, 132), (3, 133), (4, 134)] rfl rfl rfl rfl rfl rfl (Nat.le_of_ble_eq_true rfl) ?_
                    rintro _ _ ⟨rfl, rfl⟩
                    refine mj_k rfl rfl ?_
                    exact mj_iret h rfl d_Sw_option_160 (by decide) (by decide) ⟨rfl, rfl⟩
                  · exact absurd (by decide) h9
                · exact absurd hg.2.2.2.2.2.2.2 h8
            · exact absurd (Int32.not_lt.mp hg.2.2.2.2.2.1) h6
        · exact absurd (Int32.not_lt.mp hg.2.2.2.1) h4
    · exact absurd (Int32.not_lt.mp hg.2.1) h2
set_option maxRecDepth 100000 in
set_option maxHeartbeats 8000000 in
theorem ev_Sw_option_4_1 (l : Launch) (D : va_G) (cA : Nat → ClassId) (st : Bool) (wy pt : Int32) (cz : Nat) (v : Int64) (m a b : Int32) (hg : ¬ nI cz < 1 ∧ ¬ 6 < nI cz ∧ ¬ m < 0 ∧ ¬ 7 < m ∧ ¬ a < -80 ∧ ¬ 80 < a ∧ ¬ b < 0 ∧ b ≤ 80) : mj_EvZ zG l D cA m_Sw_option 2 80 1 7 [.ref 50, .int (nI cz), .long v, .int m, .int a, .int b] [(50, cSw st 4), (53, cRs [some 100, some 110, some 120, some 130, none, none]), (130, cRu 131 wy pt 1), (131, cOs [some 132, none, none])] [0, 40, 50, 51, 53, 60, 70, 100, 110, 120, 130, 131, 132] Z_0 (fun r1 w1 => r1 = some (.int (nI 2)) ∧ w1 = [(50, cSw st 4), (53, cRs [some 100, some 110, some 120, some 130, none, none]), (130, cRu 131 wy pt 2), (131, cOs [some 132, some 133, none])] ++ [(133, cOt (uNew cz v m a b))]) := by
  refine mj_evZ (lv := [(0, .ref 50), (1, .int (nI cz)), (2, .long v), (4, .int m), (5, .int a), (6, .int b)]) (by decide +kernel) (Nat.le_of_ble_eq_true rfl) rfl (fun X h hZ => ?_)
  refine mj_blk h.1 b_Sw_option_0 rfl trivial ?_
  refine mj_iclt h.1 (tgt := 11) d_Sw_option_2 (by decide) (fun h1 => ?_) (fun h1 => ?_)
  · exact absurd h1 hg.1
  · refine mj_blk h.1 b_Sw_option_5 rfl trivial ?_
    refine mj_icle h.1 (tgt := 21) d_Sw_option_8 (by decide) (fun h2 => ?_) (fun h2 => ?_)
    · refine mj_blk h.1 b_Sw_option_21 rfl trivial ?_
      refine mj_iflt h.1 (tgt := 33) d_Sw_option_23 (by decide) (fun h3 => ?_) (fun h3 => ?_)
      · exact absurd h3 hg.2.2.1
      · refine mj_blk h.1 b_Sw_option_26 rfl trivial ?_
        refine mj_icle h.1 (tgt := 43) d_Sw_option_30 (by decide) (fun h4 => ?_) (fun h4 => ?_)
        · refine mj_blk h.1 b_Sw_option_43 rfl trivial ?_
          refine mj_iclt h.1 (tgt := 57) d_Sw_option_47 (by decide) (fun h5 => ?_) (fun h5 => ?_)
          · exact absurd h5 hg.2.2.2.2.1
          · refine mj_blk h.1 b_Sw_option_50 rfl trivial ?_
            refine mj_icle h.1 (tgt := 67) d_Sw_option_54 (by decide) (fun h6 => ?_) (fun h6 => ?_)
            · refine mj_blk h.1 b_Sw_option_67 rfl trivial ?_
              refine mj_iflt h.1 (tgt := 79) d_Sw_option_69 (by decide) (fun h7 => ?_) (fun h7 => ?_)
              · exact absurd h7 hg.2.2.2.2.2.2.1
              · refine mj_blk h.1 b_Sw_option_72 rfl trivial ?_
                refine mj_icle h.1 (tgt := 89) d_Sw_option_76 (by decide) (fun h8 => ?_) (fun h8 => ?_)
                · refine mj_blk h.1 b_Sw_option_89 rfl trivial ?_
                  rw [show nI 4 - 1 = nI 3 from rfl]
                  refine mj_callV h zGood (ev_Sw_ruleAt l D cA st 4 (by decide) [some 100, some 110, some 120, some 130, none, none] 3 130 (by decide) rfl) v_Sw_ruleAt l_Sw_option_96 d_Sw_option_96 rfl ⟨by decide, by decide⟩ ⟨by decide, by decide⟩ [] rfl rfl rfl rfl rfl rfl (Nat.le_of_ble_eq_true rfl) ?_
                  rintro _ _ ⟨rfl, rfl⟩
                  refine mj_k rfl rfl ?_
                  refine mj_blk h.1 b_Sw_option_99 rfl trivial ?_
                  refine mj_ifnonnull_r h.1 d_Sw_option_103 (tgt := 116) (by decide) ?_
                  refine mj_blk h.1 b_Sw_option_116 rfl trivial ?_
                  refine mj_callV h zGood (ev_Ru_size l D cA wy pt 1) v_Ru_size l_Sw_option_118 d_Sw_option_118 rfl ⟨by decide, by decide⟩ ⟨by decide, by decide⟩ [(0, 130), (1, 131), (2, 132), (3, 133), (4, 134)] rfl rfl rfl rfl rfl rfl (Nat.le_of_ble_eq_true rfl) ?_
                  rintro _ _ ⟨rfl, rfl⟩
                  refine mj_k rfl rfl ?_
                  refine mj_blk h.1 b_Sw_option_121 rfl trivial ?_
                  refine mj_iclt h.1 (tgt := 135) d_Sw_option_122 (by decide) (fun h9 => ?_) (fun h9 => ?_)
                  · refine mj_blk h.1 b_Sw_option_135 rfl trivial ?_
                    refine mj_new h.1 (mj_rm h) (ci := 4) (fs := [.int 0, .int 0, .int 0, .int 0, .int 0, .long 0, .int 0]) rfl u_Op t_Op_ok z4_23 z3_17 z1_18 df_Op (fun _ => rfl) d_Sw_option_137 (by decide) (by decide) 133 (mj_bl_no rfl) (mj_fb_ok rfl) rfl ?_
                    refine mj_blk h.1 b_Sw_option_140 rfl trivial ?_
                    refine mj_callI h zGood hZ (ev_Op_init l D cA cz v m a b) iw_Op_init (Or.inl z4_24) ⟨(fun _ h => nomatch h), (fun _ h => nomatch h)⟩ d_Sw_option_149 rfl ⟨by decide, by decide⟩ ⟨by decide, by decide⟩ [(0, 133)] [] rfl rfl rfl rfl (Nat.le_of_ble_eq_true rfl) rfl ?_
                    rintro _ _ ⟨rfl, rfl⟩
                    refine mj_k9 rfl rfl rfl rfl rfl rfl rfl rfl ?_
                    refine mj_callV h zGood (ev_Ru_add_1 l D cA wy pt _ _ _ _ _ _ _) v_Ru_add l_Sw_option_152 d_Sw_option_152 rfl ⟨by decide, by decide⟩ ⟨by decide, by decide⟩ [(0, 130), (1, 131), (2, 132), (3, 133), (4, 134)] rfl rfl rfl rfl rfl rfl (Nat.le_of_ble_eq_true rfl) ?_
                    rintro _ _ ⟨rfl, rfl⟩
                    refine mj_k rfl rfl ?_
                    refine mj_blk h.1 b_Sw_option_155 rfl trivial ?_
                    refine mj_callV h zGood (ev_Ru_size l D cA wy pt 2) v_Ru_size l_Sw_option_157 d_Sw_option_157 rfl ⟨by decide, by decide⟩ ⟨by decide, by decide⟩ [(0, 130), (1, 131), (2, 132), (3, 133), (4, 134)] rfl rfl rfl rfl rfl rfl (Nat.le_of_ble_eq_true rfl) ?_
                    rintro _ _ ⟨rfl, rfl⟩
                    refine mj_k rfl rfl ?_
                    exact mj_iret h rfl d_Sw_option_160 (by decide) (by decide) ⟨rfl, rfl⟩
                  · exact absurd (by decide) h9
                · exact absurd hg.2.2.2.2.2.2.2 h8
            · exact absurd (Int32.not_lt.mp hg.2.2.2.2.2.1) h6
        · exact absurd (Int32.not_lt.mp hg.2.2.2.1) h4
    · exact absurd (Int32.not_lt.mp hg.2.1) h2
set_option maxRecDepth 100000 in
set_option maxHeartbeats 8000000 in
theorem ev_Sw_option_4_2 (l : Launch) (D : va_G) (cA : Nat → ClassId) (st : Bool) (wy pt : Int32) (cz : Nat) (v : Int64) (m a b : Int32) (hg : ¬ nI cz < 1 ∧ ¬ 6 < nI cz ∧ ¬ m < 0 ∧ ¬ 7 < m ∧ ¬ a < -80 ∧ ¬ 80 < a ∧ ¬ b < 0 ∧ b ≤ 80) : mj_EvZ zG l D cA m_Sw_option 2 80 1 7 [.ref 50, .int (nI cz), .long v, .int m, .int a, .int b] [(50, cSw st 4), (53, cRs [some 100, some 110, some 120, some 130, none, none]), (130, cRu 131 wy pt 2), (131, cOs [some 132, some 133, none])] [0, 40, 50, 51, 53, 60, 70, 100, 110, 120, 130, 131, 132, 133] Z_0 (fun r1 w1 => r1 = some (.int (nI 3)) ∧ w1 = [(50, cSw st 4), (53, cRs [some 100, some 110, some 120, some 130, none, none]), (130, cRu 131 wy pt 3), (131, cOs [some 132, some 133, some 134])] ++ [(134, cOt (uNew cz v m a b))]) := by
  refine mj_evZ (lv := [(0, .ref 50), (1, .int (nI cz)), (2, .long v), (4, .int m), (5, .int a), (6, .int b)]) (by decide +kernel) (Nat.le_of_ble_eq_true rfl) rfl (fun X h hZ => ?_)
  refine mj_blk h.1 b_Sw_option_0 rfl trivial ?_
  refine mj_iclt h.1 (tgt := 11) d_Sw_option_2 (by decide) (fun h1 => ?_) (fun h1 => ?_)
  · exact absurd h1 hg.1
  · refine mj_blk h.1 b_Sw_option_5 rfl trivial ?_
    refine mj_icle h.1 (tgt := 21) d_Sw_option_8 (by decide) (fun h2 => ?_) (fun h2 => ?_)
    · refine mj_blk h.1 b_Sw_option_21 rfl trivial ?_
      refine mj_iflt h.1 (tgt := 33) d_Sw_option_23 (by decide) (fun h3 => ?_) (fun h3 => ?_)
      · exact absurd h3 hg.2.2.1
      · refine mj_blk h.1 b_Sw_option_26 rfl trivial ?_
        refine mj_icle h.1 (tgt := 43) d_Sw_option_30 (by decide) (fun h4 => ?_) (fun h4 => ?_)
        · refine mj_blk h.1 b_Sw_option_43 rfl trivial ?_
          refine mj_iclt h.1 (tgt := 57) d_Sw_option_47 (by decide) (fun h5 => ?_) (fun h5 => ?_)
          · exact absurd h5 hg.2.2.2.2.1
          · refine mj_blk h.1 b_Sw_option_50 rfl trivial ?_
            refine mj_icle h.1 (tgt := 67) d_Sw_option_54 (by decide) (fun h6 => ?_) (fun h6 => ?_)
            · refine mj_blk h.1 b_Sw_option_67 rfl trivial ?_
              refine mj_iflt h.1 (tgt := 79) d_Sw_option_69 (by decide) (fun h7 => ?_) (fun h7 => ?_)
              · exact absurd h7 hg.2.2.2.2.2.2.1
              · refine mj_blk h.1 b_Sw_option_72 rfl trivial ?_
                refine mj_icle h.1 (tgt := 89) d_Sw_option_76 (by decide) (fun h8 => ?_) (fun h8 => ?_)
                · refine mj_blk h.1 b_Sw_option_89 rfl trivial ?_
                  rw [show nI 4 - 1 = nI 3 from rfl]
                  refine mj_callV h zGood (ev_Sw_ruleAt l D cA st 4 (by decide) [some 100, some 110, some 120, some 130, none, none] 3 130 (by decide) rfl) v_Sw_ruleAt l_Sw_option_96 d_Sw_option_96 rfl ⟨by decide, by decide⟩ ⟨by decide, by decide⟩ [] rfl rfl rfl rfl rfl rfl (Nat.le_of_ble_eq_true rfl) ?_
                  rintro _ _ ⟨rfl, rfl⟩
                  refine mj_k rfl rfl ?_
                  refine mj_blk h.1 b_Sw_option_99 rfl trivial ?_
                  refine mj_ifnonnull_r h.1 d_Sw_option_103 (tgt := 116) (by decide) ?_
                  refine mj_blk h.1 b_Sw_option_116 rfl trivial ?_
                  refine mj_callV h zGood (ev_Ru_size l D cA wy pt 2) v_Ru_size l_Sw_option_118 d_Sw_option_118 rfl ⟨by decide, by decide⟩ ⟨by decide, by decide⟩ [(0, 130), (1, 131), (2, 132), (3, 133), (4, 134)] rfl rfl rfl rfl rfl rfl (Nat.le_of_ble_eq_true rfl) ?_
                  rintro _ _ ⟨rfl, rfl⟩
                  refine mj_k rfl rfl ?_
                  refine mj_blk h.1 b_Sw_option_121 rfl trivial ?_
                  refine mj_iclt h.1 (tgt := 135) d_Sw_option_122 (by decide) (fun h9 => ?_) (fun h9 => ?_)
                  · refine mj_blk h.1 b_Sw_option_135 rfl trivial ?_
                    refine mj_new h.1 (mj_rm h) (ci := 4) (fs := [.int 0, .int 0, .int 0, .int 0, .int 0, .long 0, .int 0]) rfl u_Op t_Op_ok z4_23 z3_17 z1_18 df_Op (fun _ => rfl) d_Sw_option_137 (by decide) (by decide) 134 (mj_bl_no rfl) (mj_fb_ok rfl) rfl ?_
                    refine mj_blk h.1 b_Sw_option_140 rfl trivial ?_
                    refine mj_callI h zGood hZ (ev_Op_init l D cA cz v m a b) iw_Op_init (Or.inl z4_24) ⟨(fun _ h => nomatch h), (fun _ h => nomatch h)⟩ d_Sw_option_149 rfl ⟨by decide, by decide⟩ ⟨by decide, by decide⟩ [(0, 134)] [] rfl rfl rfl rfl (Nat.le_of_ble_eq_true rfl) rfl ?_
                    rintro _ _ ⟨rfl, rfl⟩
                    refine mj_k9 rfl rfl rfl rfl rfl rfl rfl rfl ?_
                    refine mj_callV h zGood (ev_Ru_add_2 l D cA wy pt _ _ _ _ _ _ _) v_Ru_add l_Sw_option_152 d_Sw_option_152 rfl ⟨by decide, by decide⟩ ⟨by decide, by decide⟩ [(0, 130), (1, 131), (2, 132), (3, 133), (4, 134)] rfl rfl rfl rfl rfl rfl (Nat.le_of_ble_eq_true rfl) ?_
                    rintro _ _ ⟨rfl, rfl⟩
                    refine mj_k rfl rfl ?_
                    refine mj_blk h.1 b_Sw_option_155 rfl trivial ?_
                    refine mj_callV h zGood (ev_Ru_size l D cA wy pt 3) v_Ru_size l_Sw_option_157 d_Sw_option_157 rfl ⟨by decide, by decide⟩ ⟨by decide, by decide⟩ [(0, 130), (1, 131), (2, 132), (3, 133), (4, 134)] rfl rfl rfl rfl rfl rfl (Nat.le_of_ble_eq_true rfl) ?_
                    rintro _ _ ⟨rfl, rfl⟩
                    refine mj_k rfl rfl ?_
                    exact mj_iret h rfl d_Sw_option_160 (by decide) (by decide) ⟨rfl, rfl⟩
                  · exact absurd (by decide) h9
                · exact absurd hg.2.2.2.2.2.2.2 h8
            · exact absurd (Int32.not_lt.mp hg.2.2.2.2.2.1) h6
        · exact absurd (Int32.not_lt.mp hg.2.2.2.1) h4
    · exact absurd (Int32.not_lt.mp hg.2.1) h2
set_option maxRecDepth 100000 in
set_option maxHeartbeats 8000000 in
theorem ev_Sw_option_5_0 (l : Launch) (D : va_G) (cA : Nat → ClassId) (st : Bool) (wy pt : Int32) (cz : Nat) (v : Int64) (m a b : Int32) (hg : ¬ nI cz < 1 ∧ ¬ 6 < nI cz ∧ ¬ m < 0 ∧ ¬ 7 < m ∧ ¬ a < -80 ∧ ¬ 80 < a ∧ ¬ b < 0 ∧ b ≤ 80) : mj_EvZ zG l D cA m_Sw_option 2 80 1 7 [.ref 50, .int (nI cz), .long v, .int m, .int a, .int b] [(50, cSw st 5), (53, cRs [some 100, some 110, some 120, some 130, some 140, none]), (140, cRu 141 wy pt 0), (141, cOs [none, none, none])] [0, 40, 50, 51, 53, 60, 70, 100, 110, 120, 130, 140, 141] Z_0 (fun r1 w1 => r1 = some (.int (nI 1)) ∧ w1 = [(50, cSw st 5), (53, cRs [some 100, some 110, some 120, some 130, some 140, none]), (140, cRu 141 wy pt 1), (141, cOs [some 142, none, none])] ++ [(142, cOt (uNew cz v m a b))]) := by
  refine mj_evZ (lv := [(0, .ref 50), (1, .int (nI cz)), (2, .long v), (4, .int m), (5, .int a), (6, .int b)]) (by decide +kernel) (Nat.le_of_ble_eq_true rfl) rfl (fun X h hZ => ?_)
  refine mj_blk h.1 b_Sw_option_0 rfl trivial ?_
  refine mj_iclt h.1 (tgt := 11) d_Sw_option_2 (by decide) (fun h1 => ?_) (fun h1 => ?_)
  · exact absurd h1 hg.1
  · refine mj_blk h.1 b_Sw_option_5 rfl trivial ?_
    refine mj_icle h.1 (tgt := 21) d_Sw_option_8 (by decide) (fun h2 => ?_) (fun h2 => ?_)
    · refine mj_blk h.1 b_Sw_option_21 rfl trivial ?_
      refine mj_iflt h.1 (tgt := 33) d_Sw_option_23 (by decide) (fun h3 => ?_) (fun h3 => ?_)
      · exact absurd h3 hg.2.2.1
      · refine mj_blk h.1 b_Sw_option_26 rfl trivial ?_
        refine mj_icle h.1 (tgt := 43) d_Sw_option_30 (by decide) (fun h4 => ?_) (fun h4 => ?_)
        · refine mj_blk h.1 b_Sw_option_43 rfl trivial ?_
          refine mj_iclt h.1 (tgt := 57) d_Sw_option_47 (by decide) (fun h5 => ?_) (fun h5 => ?_)
          · exact absurd h5 hg.2.2.2.2.1
          · refine mj_blk h.1 b_Sw_option_50 rfl trivial ?_
            refine mj_icle h.1 (tgt := 67) d_Sw_option_54 (by decide) (fun h6 => ?_) (fun h6 => ?_)
            · refine mj_blk h.1 b_Sw_option_67 rfl trivial ?_
              refine mj_iflt h.1 (tgt := 79) d_Sw_option_69 (by decide) (fun h7 => ?_) (fun h7 => ?_)
              · exact absurd h7 hg.2.2.2.2.2.2.1
              · refine mj_blk h.1 b_Sw_option_72 rfl trivial ?_
                refine mj_icle h.1 (tgt := 89) d_Sw_option_76 (by decide) (fun h8 => ?_) (fun h8 => ?_)
                · refine mj_blk h.1 b_Sw_option_89 rfl trivial ?_
                  rw [show nI 5 - 1 = nI 4 from rfl]
                  refine mj_callV h zGood (ev_Sw_ruleAt l D cA st 5 (by decide) [some 100, some 110, some 120, some 130, some 140, none] 4 140 (by decide) rfl) v_Sw_ruleAt l_Sw_option_96 d_Sw_option_96 rfl ⟨by decide, by decide⟩ ⟨by decide, by decide⟩ [] rfl rfl rfl rfl rfl rfl (Nat.le_of_ble_eq_true rfl) ?_
                  rintro _ _ ⟨rfl, rfl⟩
                  refine mj_k rfl rfl ?_
                  refine mj_blk h.1 b_Sw_option_99 rfl trivial ?_
                  refine mj_ifnonnull_r h.1 d_Sw_option_103 (tgt := 116) (by decide) ?_
                  refine mj_blk h.1 b_Sw_option_116 rfl trivial ?_
                  refine mj_callV h zGood (ev_Ru_size l D cA wy pt 0) v_Ru_size l_Sw_option_118 d_Sw_option_118 rfl ⟨by decide, by decide⟩ ⟨by decide, by decide⟩ [(0, 140), (1, 141), (2, 142), (3, 143), (4, 144)] rfl rfl rfl rfl rfl rfl (Nat.le_of_ble_eq_true rfl) ?_
                  rintro _ _ ⟨rfl, rfl⟩
                  refine mj_k rfl rfl ?_
                  refine mj_blk h.1 b_Sw_option_121 rfl trivial ?_
                  refine mj_iclt h.1 (tgt := 135) d_Sw_option_122 (by decide) (fun h9 => ?_) (fun h9 => ?_)
                  · refine mj_blk h.1 b_Sw_option_135 rfl trivial ?_
                    refine mj_new h.1 (mj_rm h) (ci := 4) (fs := [.int 0, .int 0, .int 0, .int 0, .int 0, .long 0, .int 0]) rfl u_Op t_Op_ok z4_23 z3_17 z1_18 df_Op (fun _ => rfl) d_Sw_option_137 (by decide) (by decide) 142 (mj_bl_no rfl) (mj_fb_ok rfl) rfl ?_
                    refine mj_blk h.1 b_Sw_option_140 rfl trivial ?_
                    refine mj_callI h zGood hZ (ev_Op_init l D cA cz v m a b) iw_Op_init (Or.inl z4_24) ⟨(fun _ h => nomatch h), (fun _ h => nomatch h)⟩ d_Sw_option_149 rfl ⟨by decide, by decide⟩ ⟨by decide, by decide⟩ [(0, 142)] [] rfl rfl rfl rfl (Nat.le_of_ble_eq_true rfl) rfl ?_
                    rintro _ _ ⟨rfl, rfl⟩
                    refine mj_k9 rfl rfl rfl rfl rfl rfl rfl rfl ?_
                    refine mj_callV h zGood (ev_Ru_add_0 l D cA wy pt _ _ _ _ _ _ _) v_Ru_add l_Sw_option_152 d_Sw_option_152 rfl ⟨by decide, by decide⟩ ⟨by decide, by decide⟩ [(0, 140), (1, 141), (2, 142), (3, 143), (4, 144)] rfl rfl rfl rfl rfl rfl (Nat.le_of_ble_eq_true rfl) ?_
                    rintro _ _ ⟨rfl, rfl⟩
                    refine mj_k rfl rfl ?_
                    refine mj_blk h.1 b_Sw_option_155 rfl trivial ?_
                    refine mj_callV h zGood (ev_Ru_size l D cA wy pt 1) v_Ru_size l_Sw_option_157 d_Sw_option_157 rfl ⟨by decide, by decide⟩ ⟨by decide, by decide⟩ [(0, 140), (1, 141), (2, 142), (3, 143), (4, 144)] rfl rfl rfl rfl rfl rfl (Nat.le_of_ble_eq_true rfl) ?_
                    rintro _ _ ⟨rfl, rfl⟩
                    refine mj_k rfl rfl ?_
                    exact mj_iret h rfl d_Sw_option_160 (by decide) (by decide) ⟨rfl, rfl⟩
                  · exact absurd (by decide) h9
                · exact absurd hg.2.2.2.2.2.2.2 h8
            · exact absurd (Int32.not_lt.mp hg.2.2.2.2.2.1) h6
        · exact absurd (Int32.not_lt.mp hg.2.2.2.1) h4
    · exact absurd (Int32.not_lt.mp hg.2.1) h2
set_option maxRecDepth 100000 in
set_option maxHeartbeats 8000000 in
theorem ev_Sw_option_5_1 (l : Launch) (D : va_G) (cA : Nat → ClassId) (st : Bool) (wy pt : Int32) (cz : Nat) (v : Int64) (m a b : Int32) (hg : ¬ nI cz < 1 ∧ ¬ 6 < nI cz ∧ ¬ m < 0 ∧ ¬ 7 < m ∧ ¬ a < -80 ∧ ¬ 80 < a ∧ ¬ b < 0 ∧ b ≤ 80) : mj_EvZ zG l D cA m_Sw_option 2 80 1 7 [.ref 50, .int (nI cz), .long v, .int m, .int a, .int b] [(50, cSw st 5), (53, cRs [some 100, some 110, some 120, some 130, some 140, none]), (140, cRu 141 wy pt 1), (141, cOs [some 142, none, none])] [0, 40, 50, 51, 53, 60, 70, 100, 110, 120, 130, 140, 141, 142] Z_0 (fun r1 w1 => r1 = some (.int (nI 2)) ∧ w1 = [(50, cSw st 5), (53, cRs [some 100, some 110, some 120, some 130, some 140, none]), (140, cRu 141 wy pt 2), (141, cOs [some 142, some 143, none])] ++ [(143, cOt (uNew cz v m a b))]) := by
  refine mj_evZ (lv := [(0, .ref 50), (1, .int (nI cz)), (2, .long v), (4, .int m), (5, .int a), (6, .int b)]) (by decide +kernel) (Nat.le_of_ble_eq_true rfl) rfl (fun X h hZ => ?_)
  refine mj_blk h.1 b_Sw_option_0 rfl trivial ?_
  refine mj_iclt h.1 (tgt := 11) d_Sw_option_2 (by decide) (fun h1 => ?_) (fun h1 => ?_)
  · exact absurd h1 hg.1
  · refine mj_blk h.1 b_Sw_option_5 rfl trivial ?_
    refine mj_icle h.1 (tgt := 21) d_Sw_option_8 (by decide) (fun h2 => ?_) (fun h2 => ?_)
    · refine mj_blk h.1 b_Sw_option_21 rfl trivial ?_
      refine mj_iflt h.1 (tgt := 33) d_Sw_option_23 (by decide) (fun h3 => ?_) (fun h3 => ?_)
      · exact absurd h3 hg.2.2.1
      · refine mj_blk h.1 b_Sw_option_26 rfl trivial ?_
        refine mj_icle h.1 (tgt := 43) d_Sw_option_30 (by decide) (fun h4 => ?_) (fun h4 => ?_)
        · refine mj_blk h.1 b_Sw_option_43 rfl trivial ?_
          refine mj_iclt h.1 (tgt := 57) d_Sw_option_47 (by decide) (fun h5 => ?_) (fun h5 => ?_)
          · exact absurd h5 hg.2.2.2.2.1
          · refine mj_blk h.1 b_Sw_option_50 rfl trivial ?_
            refine mj_icle h.1 (tgt := 67) d_Sw_option_54 (by decide) (fun h6 => ?_) (fun h6 => ?_)
            · refine mj_blk h.1 b_Sw_option_67 rfl trivial ?_
              refine mj_iflt h.1 (tgt := 79) d_Sw_option_69 (by decide) (fun h7 => ?_) (fun h7 => ?_)
              · exact absurd h7 hg.2.2.2.2.2.2.1
              · refine mj_blk h.1 b_Sw_option_72 rfl trivial ?_
                refine mj_icle h.1 (tgt := 89) d_Sw_option_76 (by decide) (fun h8 => ?_) (fun h8 => ?_)
                · refine mj_blk h.1 b_Sw_option_89 rfl trivial ?_
                  rw [show nI 5 - 1 = nI 4 from rfl]
                  refine mj_callV h zGood (ev_Sw_ruleAt l D cA st 5 (by decide) [some 100, some 110, some 120, some 130, some 140, none] 4 140 (by decide) rfl) v_Sw_ruleAt l_Sw_option_96 d_Sw_option_96 rfl ⟨by decide, by decide⟩ ⟨by decide, by decide⟩ [] rfl rfl rfl rfl rfl rfl (Nat.le_of_ble_eq_true rfl) ?_
                  rintro _ _ ⟨rfl, rfl⟩
                  refine mj_k rfl rfl ?_
                  refine mj_blk h.1 b_Sw_option_99 rfl trivial ?_
                  refine mj_ifnonnull_r h.1 d_Sw_option_103 (tgt := 116) (by decide) ?_
                  refine mj_blk h.1 b_Sw_option_116 rfl trivial ?_
                  refine mj_callV h zGood (ev_Ru_size l D cA wy pt 1) v_Ru_size l_Sw_option_118 d_Sw_option_118 rfl ⟨by decide, by decide⟩ ⟨by decide, by decide⟩ [(0, 140), (1, 141), (2, 142), (3, 143), (4, 144)] rfl rfl rfl rfl rfl rfl (Nat.le_of_ble_eq_true rfl) ?_
                  rintro _ _ ⟨rfl, rfl⟩
                  refine mj_k rfl rfl ?_
                  refine mj_blk h.1 b_Sw_option_121 rfl trivial ?_
                  refine mj_iclt h.1 (tgt := 135) d_Sw_option_122 (by decide) (fun h9 => ?_) (fun h9 => ?_)
                  · refine mj_blk h.1 b_Sw_option_135 rfl trivial ?_
                    refine mj_new h.1 (mj_rm h) (ci := 4) (fs := [.int 0, .int 0, .int 0, .int 0, .int 0, .long 0, .int 0]) rfl u_Op t_Op_ok z4_23 z3_17 z1_18 df_Op (fun _ => rfl) d_Sw_option_137 (by decide) (by decide) 143 (mj_bl_no rfl) (mj_fb_ok rfl) rfl ?_
                    refine mj_blk h.1 b_Sw_option_140 rfl trivial ?_
                    refine mj_callI h zGood hZ (ev_Op_init l D cA cz v m a b) iw_Op_init (Or.inl z4_24) ⟨(fun _ h => nomatch h), (fun _ h => nomatch h)⟩ d_Sw_option_149 rfl ⟨by decide, by decide⟩ ⟨by decide, by decide⟩ [(0, 143)] [] rfl rfl rfl rfl (Nat.le_of_ble_eq_true rfl) rfl ?_
                    rintro _ _ ⟨rfl, rfl⟩
                    refine mj_k9 rfl rfl rfl rfl rfl rfl rfl rfl ?_
                    refine mj_callV h zGood (ev_Ru_add_1 l D cA wy pt _ _ _ _ _ _ _) v_Ru_add l_Sw_option_152 d_Sw_option_152 rfl ⟨by decide, by decide⟩ ⟨by decide, by decide⟩ [(0, 140), (1, 141), (2, 142), (3, 143), (4, 144)] rfl rfl rfl rfl rfl rfl (Nat.le_of_ble_eq_true rfl) ?_
                    rintro _ _ ⟨rfl, rfl⟩
                    refine mj_k rfl rfl ?_
                    refine mj_blk h.1 b_Sw_option_155 rfl trivial ?_
                    refine mj_callV h zGood (ev_Ru_size l D cA wy pt 2) v_Ru_size l_Sw_option_157 d_Sw_option_157 rfl ⟨by decide, by decide⟩ ⟨by decide, by decide⟩ [(0, 140), (1, 141), (2, 142), (3, 143), (4, 144)] rfl rfl rfl rfl rfl rfl (Nat.le_of_ble_eq_true rfl) ?_
                    rintro _ _ ⟨rfl, rfl⟩
                    refine mj_k rfl rfl ?_
                    exact mj_iret h rfl d_Sw_option_160 (by decide) (by decide) ⟨rfl, rfl⟩
                  · exact absurd (by decide) h9
                · exact absurd hg.2.2.2.2.2.2.2 h8
            · exact absurd (Int32.not_lt.mp hg.2.2.2.2.2.1) h6
        · exact absurd (Int32.not_lt.mp hg.2.2.2.1) h4
    · exact absurd (Int32.not_lt.mp hg.2.1) h2
set_option maxRecDepth 100000 in
set_option maxHeartbeats 8000000 in
theorem ev_Sw_option_5_2 (l : Launch) (D : va_G) (cA : Nat → ClassId) (st : Bool) (wy pt : Int32) (cz : Nat) (v : Int64) (m a b : Int32) (hg : ¬ nI cz < 1 ∧ ¬ 6 < nI cz ∧ ¬ m < 0 ∧ ¬ 7 < m ∧ ¬ a < -80 ∧ ¬ 80 < a ∧ ¬ b < 0 ∧ b ≤ 80) : mj_EvZ zG l D cA m_Sw_option 2 80 1 7 [.ref 50, .int (nI cz), .long v, .int m, .int a, .int b] [(50, cSw st 5), (53, cRs [some 100, some 110, some 120, some 130, some 140, none]), (140, cRu 141 wy pt 2), (141, cOs [some 142, some 143, none])] [0, 40, 50, 51, 53, 60, 70, 100, 110, 120, 130, 140, 141, 142, 143] Z_0 (fun r1 w1 => r1 = some (.int (nI 3)) ∧ w1 = [(50, cSw st 5), (53, cRs [some 100, some 110, some 120, some 130, some 140, none]), (140, cRu 141 wy pt 3), (141, cOs [some 142, some 143, some 144])] ++ [(144, cOt (uNew cz v m a b))]) := by
  refine mj_evZ (lv := [(0, .ref 50), (1, .int (nI cz)), (2, .long v), (4, .int m), (5, .int a), (6, .int b)]) (by decide +kernel) (Nat.le_of_ble_eq_true rfl) rfl (fun X h hZ => ?_)
  refine mj_blk h.1 b_Sw_option_0 rfl trivial ?_
  refine mj_iclt h.1 (tgt := 11) d_Sw_option_2 (by decide) (fun h1 => ?_) (fun h1 => ?_)
  · exact absurd h1 hg.1
  · refine mj_blk h.1 b_Sw_option_5 rfl trivial ?_
    refine mj_icle h.1 (tgt := 21) d_Sw_option_8 (by decide) (fun h2 => ?_) (fun h2 => ?_)
    · refine mj_blk h.1 b_Sw_option_21 rfl trivial ?_
      refine mj_iflt h.1 (tgt := 33) d_Sw_option_23 (by decide) (fun h3 => ?_) (fun h3 => ?_)
      · exact absurd h3 hg.2.2.1
      · refine mj_blk h.1 b_Sw_option_26 rfl trivial ?_
        refine mj_icle h.1 (tgt := 43) d_Sw_option_30 (by decide) (fun h4 => ?_) (fun h4 => ?_)
        · refine mj_blk h.1 b_Sw_option_43 rfl trivial ?_
          refine mj_iclt h.1 (tgt := 57) d_Sw_option_47 (by decide) (fun h5 => ?_) (fun h5 => ?_)
          · exact absurd h5 hg.2.2.2.2.1
          · refine mj_blk h.1 b_Sw_option_50 rfl trivial ?_
            refine mj_icle h.1 (tgt := 67) d_Sw_option_54 (by decide) (fun h6 => ?_) (fun h6 => ?_)
            · refine mj_blk h.1 b_Sw_option_67 rfl trivial ?_
              refine mj_iflt h.1 (tgt := 79) d_Sw_option_69 (by decide) (fun h7 => ?_) (fun h7 => ?_)
              · exact absurd h7 hg.2.2.2.2.2.2.1
              · refine mj_blk h.1 b_Sw_option_72 rfl trivial ?_
                refine mj_icle h.1 (tgt := 89) d_Sw_option_76 (by decide) (fun h8 => ?_) (fun h8 => ?_)
                · refine mj_blk h.1 b_Sw_option_89 rfl trivial ?_
                  rw [show nI 5 - 1 = nI 4 from rfl]
                  refine mj_callV h zGood (ev_Sw_ruleAt l D cA st 5 (by decide) [some 100, some 110, some 120, some 130, some 140, none] 4 140 (by decide) rfl) v_Sw_ruleAt l_Sw_option_96 d_Sw_option_96 rfl ⟨by decide, by decide⟩ ⟨by decide, by decide⟩ [] rfl rfl rfl rfl rfl rfl (Nat.le_of_ble_eq_true rfl) ?_
                  rintro _ _ ⟨rfl, rfl⟩
                  refine mj_k rfl rfl ?_
                  refine mj_blk h.1 b_Sw_option_99 rfl trivial ?_
                  refine mj_ifnonnull_r h.1 d_Sw_option_103 (tgt := 116) (by decide) ?_
                  refine mj_blk h.1 b_Sw_option_116 rfl trivial ?_
                  refine mj_callV h zGood (ev_Ru_size l D cA wy pt 2) v_Ru_size l_Sw_option_118 d_Sw_option_118 rfl ⟨by decide, by decide⟩ ⟨by decide, by decide⟩ [(0, 140), (1, 141), (2, 142), (3, 143), (4, 144)] rfl rfl rfl rfl rfl rfl (Nat.le_of_ble_eq_true rfl) ?_
                  rintro _ _ ⟨rfl, rfl⟩
                  refine mj_k rfl rfl ?_
                  refine mj_blk h.1 b_Sw_option_121 rfl trivial ?_
                  refine mj_iclt h.1 (tgt := 135) d_Sw_option_122 (by decide) (fun h9 => ?_) (fun h9 => ?_)
                  · refine mj_blk h.1 b_Sw_option_135 rfl trivial ?_
                    refine mj_new h.1 (mj_rm h) (ci := 4) (fs := [.int 0, .int 0, .int 0, .int 0, .int 0, .long 0, .int 0]) rfl u_Op t_Op_ok z4_23 z3_17 z1_18 df_Op (fun _ => rfl) d_Sw_option_137 (by decide) (by decide) 144 (mj_bl_no rfl) (mj_fb_ok rfl) rfl ?_
                    refine mj_blk h.1 b_Sw_option_140 rfl trivial ?_
                    refine mj_callI h zGood hZ (ev_Op_init l D cA cz v m a b) iw_Op_init (Or.inl z4_24) ⟨(fun _ h => nomatch h), (fun _ h => nomatch h)⟩ d_Sw_option_149 rfl ⟨by decide, by decide⟩ ⟨by decide, by decide⟩ [(0, 144)] [] rfl rfl rfl rfl (Nat.le_of_ble_eq_true rfl) rfl ?_
                    rintro _ _ ⟨rfl, rfl⟩
                    refine mj_k9 rfl rfl rfl rfl rfl rfl rfl rfl ?_
                    refine mj_callV h zGood (ev_Ru_add_2 l D cA wy pt _ _ _ _ _ _ _) v_Ru_add l_Sw_option_152 d_Sw_option_152 rfl ⟨by decide, by decide⟩ ⟨by decide, by decide⟩ [(0, 140), (1, 141), (2, 142), (3, 143), (4, 144)] rfl rfl rfl rfl rfl rfl (Nat.le_of_ble_eq_true rfl) ?_
                    rintro _ _ ⟨rfl, rfl⟩
                    refine mj_k rfl rfl ?_
                    refine mj_blk h.1 b_Sw_option_155 rfl trivial ?_
                    refine mj_callV h zGood (ev_Ru_size l D cA wy pt 3) v_Ru_size l_Sw_option_157 d_Sw_option_157 rfl ⟨by decide, by decide⟩ ⟨by decide, by decide⟩ [(0, 140), (1, 141), (2, 142), (3, 143), (4, 144)] rfl rfl rfl rfl rfl rfl (Nat.le_of_ble_eq_true rfl) ?_
                    rintro _ _ ⟨rfl, rfl⟩
                    refine mj_k rfl rfl ?_
                    exact mj_iret h rfl d_Sw_option_160 (by decide) (by decide) ⟨rfl, rfl⟩
                  · exact absurd (by decide) h9
                · exact absurd hg.2.2.2.2.2.2.2 h8
            · exact absurd (Int32.not_lt.mp hg.2.2.2.2.2.1) h6
        · exact absurd (Int32.not_lt.mp hg.2.2.2.1) h4
    · exact absurd (Int32.not_lt.mp hg.2.1) h2
set_option maxRecDepth 100000 in
set_option maxHeartbeats 8000000 in
theorem ev_Sw_option_6_0 (l : Launch) (D : va_G) (cA : Nat → ClassId) (st : Bool) (wy pt : Int32) (cz : Nat) (v : Int64) (m a b : Int32) (hg : ¬ nI cz < 1 ∧ ¬ 6 < nI cz ∧ ¬ m < 0 ∧ ¬ 7 < m ∧ ¬ a < -80 ∧ ¬ 80 < a ∧ ¬ b < 0 ∧ b ≤ 80) : mj_EvZ zG l D cA m_Sw_option 2 80 1 7 [.ref 50, .int (nI cz), .long v, .int m, .int a, .int b] [(50, cSw st 6), (53, cRs [some 100, some 110, some 120, some 130, some 140, some 150]), (150, cRu 151 wy pt 0), (151, cOs [none, none, none])] [0, 40, 50, 51, 53, 60, 70, 100, 110, 120, 130, 140, 150, 151] Z_0 (fun r1 w1 => r1 = some (.int (nI 1)) ∧ w1 = [(50, cSw st 6), (53, cRs [some 100, some 110, some 120, some 130, some 140, some 150]), (150, cRu 151 wy pt 1), (151, cOs [some 152, none, none])] ++ [(152, cOt (uNew cz v m a b))]) := by
  refine mj_evZ (lv := [(0, .ref 50), (1, .int (nI cz)), (2, .long v), (4, .int m), (5, .int a), (6, .int b)]) (by decide +kernel) (Nat.le_of_ble_eq_true rfl) rfl (fun X h hZ => ?_)
  refine mj_blk h.1 b_Sw_option_0 rfl trivial ?_
  refine mj_iclt h.1 (tgt := 11) d_Sw_option_2 (by decide) (fun h1 => ?_) (fun h1 => ?_)
  · exact absurd h1 hg.1
  · refine mj_blk h.1 b_Sw_option_5 rfl trivial ?_
    refine mj_icle h.1 (tgt := 21) d_Sw_option_8 (by decide) (fun h2 => ?_) (fun h2 => ?_)
    · refine mj_blk h.1 b_Sw_option_21 rfl trivial ?_
      refine mj_iflt h.1 (tgt := 33) d_Sw_option_23 (by decide) (fun h3 => ?_) (fun h3 => ?_)
      · exact absurd h3 hg.2.2.1
      · refine mj_blk h.1 b_Sw_option_26 rfl trivial ?_
        refine mj_icle h.1 (tgt := 43) d_Sw_option_30 (by decide) (fun h4 => ?_) (fun h4 => ?_)
        · refine mj_blk h.1 b_Sw_option_43 rfl trivial ?_
          refine mj_iclt h.1 (tgt := 57) d_Sw_option_47 (by decide) (fun h5 => ?_) (fun h5 => ?_)
          · exact absurd h5 hg.2.2.2.2.1
          · refine mj_blk h.1 b_Sw_option_50 rfl trivial ?_
            refine mj_icle h.1 (tgt := 67) d_Sw_option_54 (by decide) (fun h6 => ?_) (fun h6 => ?_)
            · refine mj_blk h.1 b_Sw_option_67 rfl trivial ?_
              refine mj_iflt h.1 (tgt := 79) d_Sw_option_69 (by decide) (fun h7 => ?_) (fun h7 => ?_)
              · exact absurd h7 hg.2.2.2.2.2.2.1
              · refine mj_blk h.1 b_Sw_option_72 rfl trivial ?_
                refine mj_icle h.1 (tgt := 89) d_Sw_option_76 (by decide) (fun h8 => ?_) (fun h8 => ?_)
                · refine mj_blk h.1 b_Sw_option_89 rfl trivial ?_
                  rw [show nI 6 - 1 = nI 5 from rfl]
                  refine mj_callV h zGood (ev_Sw_ruleAt l D cA st 6 (by decide) [some 100, some 110, some 120, some 130, some 140, some 150] 5 150 (by decide) rfl) v_Sw_ruleAt l_Sw_option_96 d_Sw_option_96 rfl ⟨by decide, by decide⟩ ⟨by decide, by decide⟩ [] rfl rfl rfl rfl rfl rfl (Nat.le_of_ble_eq_true rfl) ?_
                  rintro _ _ ⟨rfl, rfl⟩
                  refine mj_k rfl rfl ?_
                  refine mj_blk h.1 b_Sw_option_99 rfl trivial ?_
                  refine mj_ifnonnull_r h.1 d_Sw_option_103 (tgt := 116) (by decide) ?_
                  refine mj_blk h.1 b_Sw_option_116 rfl trivial ?_
                  refine mj_callV h zGood (ev_Ru_size l D cA wy pt 0) v_Ru_size l_Sw_option_118 d_Sw_option_118 rfl ⟨by decide, by decide⟩ ⟨by decide, by decide⟩ [(0, 150), (1, 151), (2, 152), (3, 153), (4, 154)] rfl rfl rfl rfl rfl rfl (Nat.le_of_ble_eq_true rfl) ?_
                  rintro _ _ ⟨rfl, rfl⟩
                  refine mj_k rfl rfl ?_
                  refine mj_blk h.1 b_Sw_option_121 rfl trivial ?_
                  refine mj_iclt h.1 (tgt := 135) d_Sw_option_122 (by decide) (fun h9 => ?_) (fun h9 => ?_)
                  · refine mj_blk h.1 b_Sw_option_135 rfl trivial ?_
                    refine mj_new h.1 (mj_rm h) (ci := 4) (fs := [.int 0, .int 0, .int 0, .int 0, .int 0, .long 0, .int 0]) rfl u_Op t_Op_ok z4_23 z3_17 z1_18 df_Op (fun _ => rfl) d_Sw_option_137 (by decide) (by decide) 152 (mj_bl_no rfl) (mj_fb_ok rfl) rfl ?_
                    refine mj_blk h.1 b_Sw_option_140 rfl trivial ?_
                    refine mj_callI h zGood hZ (ev_Op_init l D cA cz v m a b) iw_Op_init (Or.inl z4_24) ⟨(fun _ h => nomatch h), (fun _ h => nomatch h)⟩ d_Sw_option_149 rfl ⟨by decide, by decide⟩ ⟨by decide, by decide⟩ [(0, 152)] [] rfl rfl rfl rfl (Nat.le_of_ble_eq_true rfl) rfl ?_
                    rintro _ _ ⟨rfl, rfl⟩
                    refine mj_k9 rfl rfl rfl rfl rfl rfl rfl rfl ?_
                    refine mj_callV h zGood (ev_Ru_add_0 l D cA wy pt _ _ _ _ _ _ _) v_Ru_add l_Sw_option_152 d_Sw_option_152 rfl ⟨by decide, by decide⟩ ⟨by decide, by decide⟩ [(0, 150), (1, 151), (2, 152), (3, 153), (4, 154)] rfl rfl rfl rfl rfl rfl (Nat.le_of_ble_eq_true rfl) ?_
                    rintro _ _ ⟨rfl, rfl⟩
                    refine mj_k rfl rfl ?_
                    refine mj_blk h.1 b_Sw_option_155 rfl trivial ?_
                    refine mj_callV h zGood (ev_Ru_size l D cA wy pt 1) v_Ru_size l_Sw_option_157 d_Sw_option_157 rfl ⟨by decide, by decide⟩ ⟨by decide, by decide⟩ [(0, 150), (1, 151), (2, 152), (3, 153), (4, 154)] rfl rfl rfl rfl rfl rfl (Nat.le_of_ble_eq_true rfl) ?_
                    rintro _ _ ⟨rfl, rfl⟩
                    refine mj_k rfl rfl ?_
                    exact mj_iret h rfl d_Sw_option_160 (by decide) (by decide) ⟨rfl, rfl⟩
                  · exact absurd (by decide) h9
                · exact absurd hg.2.2.2.2.2.2.2 h8
            · exact absurd (Int32.not_lt.mp hg.2.2.2.2.2.1) h6
        · exact absurd (Int32.not_lt.mp hg.2.2.2.1) h4
    · exact absurd (Int32.not_lt.mp hg.2.1) h2
set_option maxRecDepth 100000 in
set_option maxHeartbeats 8000000 in
theorem ev_Sw_option_6_1 (l : Launch) (D : va_G) (cA : Nat → ClassId) (st : Bool) (wy pt : Int32) (cz : Nat) (v : Int64) (m a b : Int32) (hg : ¬ nI cz < 1 ∧ ¬ 6 < nI cz ∧ ¬ m < 0 ∧ ¬ 7 < m ∧ ¬ a < -80 ∧ ¬ 80 < a ∧ ¬ b < 0 ∧ b ≤ 80) : mj_EvZ zG l D cA m_Sw_option 2 80 1 7 [.ref 50, .int (nI cz), .long v, .int m, .int a, .int b] [(50, cSw st 6), (53, cRs [some 100, some 110, some 120, some 130, some 140, some 150]), (150, cRu 151 wy pt 1), (151, cOs [some 152, none, none])] [0, 40, 50, 51, 53, 60, 70, 100, 110, 120, 130, 140, 150, 151, 152] Z_0 (fun r1 w1 => r1 = some (.int (nI 2)) ∧ w1 = [(50, cSw st 6), (53, cRs [some 100, some 110, some 120, some 130, some 140, some 150]), (150, cRu 151 wy pt 2), (151, cOs [some 152, some 153, none])] ++ [(153, cOt (uNew cz v m a b))]) := by
  refine mj_evZ (lv := [(0, .ref 50), (1, .int (nI cz)), (2, .long v), (4, .int m), (5, .int a), (6, .int b)]) (by decide +kernel) (Nat.le_of_ble_eq_true rfl) rfl (fun X h hZ => ?_)
  refine mj_blk h.1 b_Sw_option_0 rfl trivial ?_
  refine mj_iclt h.1 (tgt := 11) d_Sw_option_2 (by decide) (fun h1 => ?_) (fun h1 => ?_)
  · exact absurd h1 hg.1
  · refine mj_blk h.1 b_Sw_option_5 rfl trivial ?_
    refine mj_icle h.1 (tgt := 21) d_Sw_option_8 (by decide) (fun h2 => ?_) (fun h2 => ?_)
    · refine mj_blk h.1 b_Sw_option_21 rfl trivial ?_
      refine mj_iflt h.1 (tgt := 33) d_Sw_option_23 (by decide) (fun h3 => ?_) (fun h3 => ?_)
      · exact absurd h3 hg.2.2.1
      · refine mj_blk h.1 b_Sw_option_26 rfl trivial ?_
        refine mj_icle h.1 (tgt := 43) d_Sw_option_30 (by decide) (fun h4 => ?_) (fun h4 => ?_)
        · refine mj_blk h.1 b_Sw_option_43 rfl trivial ?_
          refine mj_iclt h.1 (tgt := 57) d_Sw_option_47 (by decide) (fun h5 => ?_) (fun h5 => ?_)
          · exact absurd h5 hg.2.2.2.2.1
          · refine mj_blk h.1 b_Sw_option_50 rfl trivial ?_
            refine mj_icle h.1 (tgt := 67) d_Sw_option_54 (by decide) (fun h6 => ?_) (fun h6 => ?_)
            · refine mj_blk h.1 b_Sw_option_67 rfl trivial ?_
              refine mj_iflt h.1 (tgt := 79) d_Sw_option_69 (by decide) (fun h7 => ?_) (fun h7 => ?_)
              · exact absurd h7 hg.2.2.2.2.2.2.1
              · refine mj_blk h.1 b_Sw_option_72 rfl trivial ?_
                refine mj_icle h.1 (tgt := 89) d_Sw_option_76 (by decide) (fun h8 => ?_) (fun h8 => ?_)
                · refine mj_blk h.1 b_Sw_option_89 rfl trivial ?_
                  rw [show nI 6 - 1 = nI 5 from rfl]
                  refine mj_callV h zGood (ev_Sw_ruleAt l D cA st 6 (by decide) [some 100, some 110, some 120, some 130, some 140, some 150] 5 150 (by decide) rfl) v_Sw_ruleAt l_Sw_option_96 d_Sw_option_96 rfl ⟨by decide, by decide⟩ ⟨by decide, by decide⟩ [] rfl rfl rfl rfl rfl rfl (Nat.le_of_ble_eq_true rfl) ?_
                  rintro _ _ ⟨rfl, rfl⟩
                  refine mj_k rfl rfl ?_
                  refine mj_blk h.1 b_Sw_option_99 rfl trivial ?_
                  refine mj_ifnonnull_r h.1 d_Sw_option_103 (tgt := 116) (by decide) ?_
                  refine mj_blk h.1 b_Sw_option_116 rfl trivial ?_
                  refine mj_callV h zGood (ev_Ru_size l D cA wy pt 1) v_Ru_size l_Sw_option_118 d_Sw_option_118 rfl ⟨by decide, by decide⟩ ⟨by decide, by decide⟩ [(0, 150), (1, 151), (2, 152), (3, 153), (4, 154)] rfl rfl rfl rfl rfl rfl (Nat.le_of_ble_eq_true rfl) ?_
                  rintro _ _ ⟨rfl, rfl⟩
                  refine mj_k rfl rfl ?_
                  refine mj_blk h.1 b_Sw_option_121 rfl trivial ?_
                  refine mj_iclt h.1 (tgt := 135) d_Sw_option_122 (by decide) (fun h9 => ?_) (fun h9 => ?_)
                  · refine mj_blk h.1 b_Sw_option_135 rfl trivial ?_
                    refine mj_new h.1 (mj_rm h) (ci := 4) (fs := [.int 0, .int 0, .int 0, .int 0, .int 0, .long 0, .int 0]) rfl u_Op t_Op_ok z4_23 z3_17 z1_18 df_Op (fun _ => rfl) d_Sw_option_137 (by decide) (by decide) 153 (mj_bl_no rfl) (mj_fb_ok rfl) rfl ?_
                    refine mj_blk h.1 b_Sw_option_140 rfl trivial ?_
                    refine mj_callI h zGood hZ (ev_Op_init l D cA cz v m a b) iw_Op_init (Or.inl z4_24) ⟨(fun _ h => nomatch h), (fun _ h => nomatch h)⟩ d_Sw_option_149 rfl ⟨by decide, by decide⟩ ⟨by decide, by decide⟩ [(0, 153)] [] rfl rfl rfl rfl (Nat.le_of_ble_eq_true rfl) rfl ?_
                    rintro _ _ ⟨rfl, rfl⟩
                    refine mj_k9 rfl rfl rfl rfl rfl rfl rfl rfl ?_
                    refine mj_callV h zGood (ev_Ru_add_1 l D cA wy pt _ _ _ _ _ _ _) v_Ru_add l_Sw_option_152 d_Sw_option_152 rfl ⟨by decide, by decide⟩ ⟨by decide, by decide⟩ [(0, 150), (1, 151), (2, 152), (3, 153), (4, 154)] rfl rfl rfl rfl rfl rfl (Nat.le_of_ble_eq_true rfl) ?_
                    rintro _ _ ⟨rfl, rfl⟩
                    refine mj_k rfl rfl ?_
                    refine mj_blk h.1 b_Sw_option_155 rfl trivial ?_
                    refine mj_callV h zGood (ev_Ru_size l D cA wy pt 2) v_Ru_size l_Sw_option_157 d_Sw_option_157 rfl ⟨by decide, by decide⟩ ⟨by decide, by decide⟩ [(0, 150), (1, 151), (2, 152), (3, 153), (4, 154)] rfl rfl rfl rfl rfl rfl (Nat.le_of_ble_eq_true rfl) ?_
                    rintro _ _ ⟨rfl, rfl⟩
                    refine mj_k rfl rfl ?_
                    exact mj_iret h rfl d_Sw_option_160 (by decide) (by decide) ⟨rfl, rfl⟩
                  · exact absurd (by decide) h9
                · exact absurd hg.2.2.2.2.2.2.2 h8
            · exact absurd (Int32.not_lt.mp hg.2.2.2.2.2.1) h6
        · exact absurd (Int32.not_lt.mp hg.2.2.2.1) h4
    · exact absurd (Int32.not_lt.mp hg.2.1) h2
set_option maxRecDepth 100000 in
set_option maxHeartbeats 8000000 in
theorem ev_Sw_option_6_2 (l : Launch) (D : va_G) (cA : Nat → ClassId) (st : Bool) (wy pt : Int32) (cz : Nat) (v : Int64) (m a b : Int32) (hg : ¬ nI cz < 1 ∧ ¬ 6 < nI cz ∧ ¬ m < 0 ∧ ¬ 7 < m ∧ ¬ a < -80 ∧ ¬ 80 < a ∧ ¬ b < 0 ∧ b ≤ 80) : mj_EvZ zG l D cA m_Sw_option 2 80 1 7 [.ref 50, .int (nI cz), .long v, .int m, .int a, .int b] [(50, cSw st 6), (53, cRs [some 100, some 110, some 120, some 130, some 140, some 150]), (150, cRu 151 wy pt 2), (151, cOs [some 152, some 153, none])] [0, 40, 50, 51, 53, 60, 70, 100, 110, 120, 130, 140, 150, 151, 152, 153] Z_0 (fun r1 w1 => r1 = some (.int (nI 3)) ∧ w1 = [(50, cSw st 6), (53, cRs [some 100, some 110, some 120, some 130, some 140, some 150]), (150, cRu 151 wy pt 3), (151, cOs [some 152, some 153, some 154])] ++ [(154, cOt (uNew cz v m a b))]) := by
  refine mj_evZ (lv := [(0, .ref 50), (1, .int (nI cz)), (2, .long v), (4, .int m), (5, .int a), (6, .int b)]) (by decide +kernel) (Nat.le_of_ble_eq_true rfl) rfl (fun X h hZ => ?_)
  refine mj_blk h.1 b_Sw_option_0 rfl trivial ?_
  refine mj_iclt h.1 (tgt := 11) d_Sw_option_2 (by decide) (fun h1 => ?_) (fun h1 => ?_)
  · exact absurd h1 hg.1
  · refine mj_blk h.1 b_Sw_option_5 rfl trivial ?_
    refine mj_icle h.1 (tgt := 21) d_Sw_option_8 (by decide) (fun h2 => ?_) (fun h2 => ?_)
    · refine mj_blk h.1 b_Sw_option_21 rfl trivial ?_
      refine mj_iflt h.1 (tgt := 33) d_Sw_option_23 (by decide) (fun h3 => ?_) (fun h3 => ?_)
      · exact absurd h3 hg.2.2.1
      · refine mj_blk h.1 b_Sw_option_26 rfl trivial ?_
        refine mj_icle h.1 (tgt := 43) d_Sw_option_30 (by decide) (fun h4 => ?_) (fun h4 => ?_)
        · refine mj_blk h.1 b_Sw_option_43 rfl trivial ?_
          refine mj_iclt h.1 (tgt := 57) d_Sw_option_47 (by decide) (fun h5 => ?_) (fun h5 => ?_)
          · exact absurd h5 hg.2.2.2.2.1
          · refine mj_blk h.1 b_Sw_option_50 rfl trivial ?_
            refine mj_icle h.1 (tgt := 67) d_Sw_option_54 (by decide) (fun h6 => ?_) (fun h6 => ?_)
            · refine mj_blk h.1 b_Sw_option_67 rfl trivial ?_
              refine mj_iflt h.1 (tgt := 79) d_Sw_option_69 (by decide) (fun h7 => ?_) (fun h7 => ?_)
              · exact absurd h7 hg.2.2.2.2.2.2.1
              · refine mj_blk h.1 b_Sw_option_72 rfl trivial ?_
                refine mj_icle h.1 (tgt := 89) d_Sw_option_76 (by decide) (fun h8 => ?_) (fun h8 => ?_)
                · refine mj_blk h.1 b_Sw_option_89 rfl trivial ?_
                  rw [show nI 6 - 1 = nI 5 from rfl]
                  refine mj_callV h zGood (ev_Sw_ruleAt l D cA st 6 (by decide) [some 100, some 110, some 120, some 130, some 140, some 150] 5 150 (by decide) rfl) v_Sw_ruleAt l_Sw_option_96 d_Sw_option_96 rfl ⟨by decide, by decide⟩ ⟨by decide, by decide⟩ [] rfl rfl rfl rfl rfl rfl (Nat.le_of_ble_eq_true rfl) ?_
                  rintro _ _ ⟨rfl, rfl⟩
                  refine mj_k rfl rfl ?_
                  refine mj_blk h.1 b_Sw_option_99 rfl trivial ?_
                  refine mj_ifnonnull_r h.1 d_Sw_option_103 (tgt := 116) (by decide) ?_
                  refine mj_blk h.1 b_Sw_option_116 rfl trivial ?_
                  refine mj_callV h zGood (ev_Ru_size l D cA wy pt 2) v_Ru_size l_Sw_option_118 d_Sw_option_118 rfl ⟨by decide, by decide⟩ ⟨by decide, by decide⟩ [(0, 150), (1, 151), (2, 152), (3, 153), (4, 154)] rfl rfl rfl rfl rfl rfl (Nat.le_of_ble_eq_true rfl) ?_
                  rintro _ _ ⟨rfl, rfl⟩
                  refine mj_k rfl rfl ?_
                  refine mj_blk h.1 b_Sw_option_121 rfl trivial ?_
                  refine mj_iclt h.1 (tgt := 135) d_Sw_option_122 (by decide) (fun h9 => ?_) (fun h9 => ?_)
                  · refine mj_blk h.1 b_Sw_option_135 rfl trivial ?_
                    refine mj_new h.1 (mj_rm h) (ci := 4) (fs := [.int 0, .int 0, .int 0, .int 0, .int 0, .long 0, .int 0]) rfl u_Op t_Op_ok z4_23 z3_17 z1_18 df_Op (fun _ => rfl) d_Sw_option_137 (by decide) (by decide) 154 (mj_bl_no rfl) (mj_fb_ok rfl) rfl ?_
                    refine mj_blk h.1 b_Sw_option_140 rfl trivial ?_
                    refine mj_callI h zGood hZ (ev_Op_init l D cA cz v m a b) iw_Op_init (Or.inl z4_24) ⟨(fun _ h => nomatch h), (fun _ h => nomatch h)⟩ d_Sw_option_149 rfl ⟨by decide, by decide⟩ ⟨by decide, by decide⟩ [(0, 154)] [] rfl rfl rfl rfl (Nat.le_of_ble_eq_true rfl) rfl ?_
                    rintro _ _ ⟨rfl, rfl⟩
                    refine mj_k9 rfl rfl rfl rfl rfl rfl rfl rfl ?_
                    refine mj_callV h zGood (ev_Ru_add_2 l D cA wy pt _ _ _ _ _ _ _) v_Ru_add l_Sw_option_152 d_Sw_option_152 rfl ⟨by decide, by decide⟩ ⟨by decide, by decide⟩ [(0, 150), (1, 151), (2, 152), (3, 153), (4, 154)] rfl rfl rfl rfl rfl rfl (Nat.le_of_ble_eq_true rfl) ?_
                    rintro _ _ ⟨rfl, rfl⟩
                    refine mj_k rfl rfl ?_
                    refine mj_blk h.1 b_Sw_option_155 rfl trivial ?_
                    refine mj_callV h zGood (ev_Ru_size l D cA wy pt 3) v_Ru_size l_Sw_option_157 d_Sw_option_157 rfl ⟨by decide, by decide⟩ ⟨by decide, by decide⟩ [(0, 150), (1, 151), (2, 152), (3, 153), (4, 154)] rfl rfl rfl rfl rfl rfl (Nat.le_of_ble_eq_true rfl) ?_
                    rintro _ _ ⟨rfl, rfl⟩
                    refine mj_k rfl rfl ?_
                    exact mj_iret h rfl d_Sw_option_160 (by decide) (by decide) ⟨rfl, rfl⟩
                  · exact absurd (by decide) h9
                · exact absurd hg.2.2.2.2.2.2.2 h8
            · exact absurd (Int32.not_lt.mp hg.2.2.2.2.2.1) h6
        · exact absurd (Int32.not_lt.mp hg.2.2.2.1) h4
    · exact absurd (Int32.not_lt.mp hg.2.1) h2
