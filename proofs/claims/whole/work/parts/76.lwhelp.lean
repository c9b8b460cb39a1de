/-! The law's helpers craft, rule, option (by program: wip/whole/src_lwh.py) -/
abbrev cLg (g : Nat → Int64) : mj_C := .inl (2, 1, .inr (.inl g))
abbrev h_craft : List (Nat × Nat × Nat × Nat) := [(0, 18, 21, 13)]
abbrev h_rule : List (Nat × Nat × Nat × Nat) := [(0, 10, 13, 13), (0, 10, 17, 19)]
abbrev h_option : List (Nat × Nat × Nat × Nat) := [(0, 17, 20, 13), (0, 17, 24, 19)]
theorem tx_ia : Cond.castable "java/lang/IllegalArgumentException" "java/lang/IllegalArgumentException" ∈ TLx := tw_Sw_craft_10 _ (by simp [mj_tw, Bundle.ownAtoms])
theorem tx_is : Cond.castable "java/lang/IllegalStateException" "java/lang/IllegalStateException" ∈ TLx := tw_Sw_rule_48 _ (by simp [mj_tw, Bundle.ownAtoms])
theorem tx_no : Cond.not (.castable "java/lang/IllegalStateException" "java/lang/IllegalArgumentException") ∈ TLx := by unfold TLx; simp only [List.mem_append, List.mem_singleton]; simp
theorem lw_k13 : Cond.classLink "StreamWatchLaw" 13 "java/lang/IllegalArgumentException" ∈ zTb := (zin3 (List.mem_of_getElem? (i := 115) rfl) rfl)
theorem lw_k19 : Cond.classLink "StreamWatchLaw" 19 "java/lang/IllegalStateException" ∈ zTb := (zin3 (List.mem_of_getElem? (i := 205) rfl) rfl)
theorem b_Lw_craft_21 : mj_Ch zG (m_Lw_craft.1.cls, m_Lw_craft.1.name, m_Lw_craft.2.1, m_Lw_craft.2.2.1) 21 [x_astore 9, x_const 1] 24 := ⟨_, i_Lw_craft_21, _, i_Lw_craft_23, rfl⟩
theorem b_Lw_rule_13 : mj_Ch zG (m_Lw_rule.1.cls, m_Lw_rule.1.name, m_Lw_rule.2.1, m_Lw_rule.2.2.1) 13 [x_astore 4, x_const 1] 16 := ⟨_, i_Lw_rule_13, _, i_Lw_rule_15, rfl⟩
theorem b_Lw_option_20 : mj_Ch zG (m_Lw_option.1.cls, m_Lw_option.1.name, m_Lw_option.2.1, m_Lw_option.2.2.1) 20 [x_astore 8, x_const 1] 23 := ⟨_, i_Lw_option_20, _, i_Lw_option_22, rfl⟩
set_option maxRecDepth 100000 in
set_option maxHeartbeats 8000000 in
theorem ew_craft_0 (l : Launch) (D : va_G) (cA : Nat → ClassId) (st : Bool) (n0 : Nat) (g : Nat → Int64) (rc n : Nat) (f : Nat → Int32) (c sq fg : Int32) (hc1 : ¬ c < 0) (hc2 : c < 8) (m : Nat) (hm : m ≤ 8) (v : Int64) (L : Nat) (hL : wPair (40 + m) (wF3 (40 + m) (kW 0 c sq fg m v f)) 2 = nI L) (hL2 : L < 2 ^ 30) (hI : wIpN (40 + m) (wF3 (40 + m) (kW 0 c sq fg m v f)) ≤ L + 1) : mj_EvW zG l D cA m_Lw_craft h_craft 7 270 1 6 [.ref 50, .int c, .int 0, .int sq, .int fg, .int (nI m), .long v, .ref 300] [(50, cSw st rc), (51, cWi 52 n), (52, cIs 100 f), (300, cLg g)] [0, 40, 50, 51, 52, 53, 60, 70, 300] Z_0 TLx n0 (fun r1 w1 => r1 = some (.int 0) ∧ w1 = [(50, cSw st rc), (51, cWi 52 (40 + m)), (52, cIs 100 (wMk (40 + m) (kW 0 c sq fg m v f) L)), (300, cLg (vp_updL g 0 (nI (40 + m)).toInt64))]) := by
  refine mj_evW (lv := [(0, .ref 50), (1, .int c), (2, .int 0), (3, .int sq), (4, .int fg), (5, .int (nI m)), (6, .long v), (8, .ref 300)]) (by decide +kernel) (Nat.le_of_ble_eq_true rfl) rfl (fun X h hZ hX => ?_)
  refine mj_blk h.1 b_Lw_craft_0 rfl trivial ?_
  refine mj_callV h zGood (ev_Sw_craft_0 l D cA st rc n f c sq fg hc1 hc2 m hm v L hL hL2 hI) v_Sw_craft l_Lw_craft_13 d_Lw_craft_13 rfl ⟨by decide, by decide⟩ ⟨by decide, by decide⟩ [] rfl rfl rfl rfl rfl rfl (Nat.le_of_ble_eq_true rfl) ?_
  rintro _ _ ⟨rfl, rfl⟩
  refine mj_k rfl rfl ?_
  refine mj_blk h.1 b_Lw_craft_16 rfl trivial ?_
  refine mj_lasto h.1 rfl rfl (show vp_in (nI 0) 1 from vp_in_nI (by decide) (by decide)) d_Lw_craft_17 rfl ?_
  refine mj_blk h.1 b_Lw_craft_18 rfl trivial ?_
  refine mj_blk h.1 b_Lw_craft_25 rfl trivial ?_
  exact mj_iret h rfl d_Lw_craft_26 (by decide) (by decide) ⟨rfl, rfl⟩
set_option maxRecDepth 100000 in
set_option maxHeartbeats 8000000 in
theorem ew_craft_1 (l : Launch) (D : va_G) (cA : Nat → ClassId) (st : Bool) (n0 : Nat) (g : Nat → Int64) (rc n : Nat) (f : Nat → Int32) (c sq fg : Int32) (hc1 : ¬ c < 0) (hc2 : c < 8) (m : Nat) (hm : m ≤ 8) (v : Int64) (L : Nat) (hL : wPair (40 + m) (wF3 (40 + m) (kW 1 c sq fg m v f)) 2 = nI L) (hL2 : L < 2 ^ 30) (hI : wIpN (40 + m) (wF3 (40 + m) (kW 1 c sq fg m v f)) ≤ L + 1) : mj_EvW zG l D cA m_Lw_craft h_craft 7 270 1 6 [.ref 50, .int c, .int 1, .int sq, .int fg, .int (nI m), .long v, .ref 300] [(50, cSw st rc), (51, cWi 52 n), (52, cIs 100 f), (300, cLg g)] [0, 40, 50, 51, 52, 53, 60, 70, 300] Z_0 TLx n0 (fun r1 w1 => r1 = some (.int 0) ∧ w1 = [(50, cSw st rc), (51, cWi 52 (40 + m)), (52, cIs 100 (wMk (40 + m) (kW 1 c sq fg m v f) L)), (300, cLg (vp_updL g 0 (nI (40 + m)).toInt64))]) := by
  refine mj_evW (lv := [(0, .ref 50), (1, .int c), (2, .int 1), (3, .int sq), (4, .int fg), (5, .int (nI m)), (6, .long v), (8, .ref 300)]) (by decide +kernel) (Nat.le_of_ble_eq_true rfl) rfl (fun X h hZ hX => ?_)
  refine mj_blk h.1 b_Lw_craft_0 rfl trivial ?_
  refine mj_callV h zGood (ev_Sw_craft_1 l D cA st rc n f c sq fg hc1 hc2 m hm v L hL hL2 hI) v_Sw_craft l_Lw_craft_13 d_Lw_craft_13 rfl ⟨by decide, by decide⟩ ⟨by decide, by decide⟩ [] rfl rfl rfl rfl rfl rfl (Nat.le_of_ble_eq_true rfl) ?_
  rintro _ _ ⟨rfl, rfl⟩
  refine mj_k rfl rfl ?_
  refine mj_blk h.1 b_Lw_craft_16 rfl trivial ?_
  refine mj_lasto h.1 rfl rfl (show vp_in (nI 0) 1 from vp_in_nI (by decide) (by decide)) d_Lw_craft_17 rfl ?_
  refine mj_blk h.1 b_Lw_craft_18 rfl trivial ?_
  refine mj_blk h.1 b_Lw_craft_25 rfl trivial ?_
  exact mj_iret h rfl d_Lw_craft_26 (by decide) (by decide) ⟨rfl, rfl⟩
set_option maxRecDepth 100000 in
set_option maxHeartbeats 8000000 in
theorem ew_craft_b (l : Launch) (hfl : l.flags = pinnedFlags ++ [noTraceFlag]) (D : va_G) (cA : Nat → ClassId) (st : Bool) (n0 : Nat) (g : Nat → Int64) (rc : Nat) (c y sq fg k : Int32) (v : Int64) (hb : ¬ (¬ c < 0 ∧ ¬ 7 < c ∧ ¬ y < 0 ∧ ¬ 1 < y ∧ ¬ k < 0 ∧ k ≤ 8)) : mj_EvW zG l D cA m_Lw_craft h_craft 7 270 1 6 [.ref 50, .int c, .int y, .int sq, .int fg, .int k, .long v, .ref 300] [(50, cSw st rc), (300, cLg g)] [0, 40, 50, 51, 53, 60, 70, 300] Z_0 TLx n0 (fun r1 w1 => r1 = some (.int 1) ∧ w1 = [(50, cSw st rc), (300, cLg g)]) := by
  refine mj_evW (lv := [(0, .ref 50), (1, .int c), (2, .int y), (3, .int sq), (4, .int fg), (5, .int k), (6, .long v), (8, .ref 300)]) (by decide +kernel) (Nat.le_of_ble_eq_true rfl) rfl (fun X h hZ hX => ?_)
  refine mj_blk h.1 b_Lw_craft_0 rfl trivial ?_
  refine mj_callT h zGood hX (evT_Sw_craft l hfl D cA st n0 c y sq fg k v rc hb) v_Sw_craft l_Lw_craft_13 d_Lw_craft_13 rfl ⟨by decide, by decide⟩ ⟨by decide, by decide⟩ [] rfl rfl (mj_ct_in (w := [(50, cSw st rc), (300, cLg g)]) rfl).2 rfl rfl (Nat.le_of_ble_eq_true rfl) [] ⟨0, 18, 21, 13⟩ [] rfl (fun _ h => nomatch h) rfl (by decide) lw_k13 tx_ia 399 (mj_bl_no rfl) ⟨(mj_fb_ok (lv := []) (st := []) rfl).1, (mj_fb_ok (w := []) (st := []) rfl).2.1⟩ ?_
  refine mj_blk h.1 b_Lw_craft_21 rfl trivial ?_
  exact mj_iret h rfl d_Lw_craft_24 (by decide) (by decide) ⟨rfl, rfl⟩
set_option maxRecDepth 100000 in
set_option maxHeartbeats 8000000 in
theorem ew_rule_0 (l : Launch) (D : va_G) (cA : Nat → ClassId) (st : Bool) (n0 : Nat) (g : Nat → Int64) (w p : Int32) (hg : ¬ w < 0 ∧ ¬ 2 < w ∧ ¬ p < 0 ∧ p ≤ 65535) : mj_EvW zG l D cA m_Lw_rule h_rule 7 270 2 7 [.ref 50, .int w, .int p, .ref 300] [(50, cSw st 0), (53, cRs [none, none, none, none, none, none]), (300, cLg g)] [0, 40, 50, 51, 53, 60, 70, 300] Z_Ru TLx n0 (fun r1 w1 => r1 = some (.int 0) ∧ w1 = [(50, cSw st 1), (53, cRs [some 100, none, none, none, none, none]), (300, cLg (vp_updL g 0 (nI 0).toInt64))] ++ [(100, cRu 101 w p 0), (101, cOs [none, none, none])]) := by
  refine mj_evW (lv := [(0, .ref 50), (1, .int w), (2, .int p), (3, .ref 300)]) (by decide +kernel) (Nat.le_of_ble_eq_true rfl) rfl (fun X h hZ hX => ?_)
  refine mj_blk h.1 b_Lw_rule_0 rfl trivial ?_
  refine mj_callN h zGood hZ (ev_Sw_rule_0 l D cA st w p hg) v_Sw_rule l_Lw_rule_5 ⟨(fun _ h => nomatch h), List.forall_mem_cons.mpr ⟨List.mem_cons_self, (fun _ h => nomatch h)⟩⟩ d_Lw_rule_5 rfl ⟨by decide, by decide⟩ ⟨by decide, by decide⟩ [] [(100, 100), (101, 101)] rfl rfl rfl rfl rfl rfl (Nat.le_of_ble_eq_true rfl) rfl ?_
  rintro _ _ ⟨rfl, rfl⟩
  refine mj_k9 rfl rfl rfl rfl rfl rfl rfl rfl ?_
  refine mj_blk h.1 b_Lw_rule_8 rfl trivial ?_
  refine mj_lasto h.1 rfl rfl (show vp_in (nI 0) 1 from vp_in_nI (by decide) (by decide)) d_Lw_rule_9 rfl ?_
  refine mj_blk h.1 b_Lw_rule_10 rfl trivial ?_
  refine mj_blk h.1 b_Lw_rule_21 rfl trivial ?_
  exact mj_iret h rfl d_Lw_rule_22 (by decide) (by decide) ⟨rfl, rfl⟩
set_option maxRecDepth 100000 in
set_option maxHeartbeats 8000000 in
theorem ew_rule_1 (l : Launch) (D : va_G) (cA : Nat → ClassId) (st : Bool) (n0 : Nat) (g : Nat → Int64) (w p : Int32) (hg : ¬ w < 0 ∧ ¬ 2 < w ∧ ¬ p < 0 ∧ p ≤ 65535) : mj_EvW zG l D cA m_Lw_rule h_rule 7 270 2 7 [.ref 50, .int w, .int p, .ref 300] [(50, cSw st 1), (53, cRs [some 100, none, none, none, none, none]), (300, cLg g)] [0, 40, 50, 51, 53, 60, 70, 100, 300] Z_Ru TLx n0 (fun r1 w1 => r1 = some (.int 0) ∧ w1 = [(50, cSw st 2), (53, cRs [some 100, some 110, none, none, none, none]), (300, cLg (vp_updL g 0 (nI 1).toInt64))] ++ [(110, cRu 111 w p 0), (111, cOs [none, none, none])]) := by
  refine mj_evW (lv := [(0, .ref 50), (1, .int w), (2, .int p), (3, .ref 300)]) (by decide +kernel) (Nat.le_of_ble_eq_true rfl) rfl (fun X h hZ hX => ?_)
  refine mj_blk h.1 b_Lw_rule_0 rfl trivial ?_
  refine mj_callN h zGood hZ (ev_Sw_rule_1 l D cA st w p hg) v_Sw_rule l_Lw_rule_5 ⟨(fun _ h => nomatch h), List.forall_mem_cons.mpr ⟨List.mem_cons_self, (fun _ h => nomatch h)⟩⟩ d_Lw_rule_5 rfl ⟨by decide, by decide⟩ ⟨by decide, by decide⟩ [] [(110, 110), (111, 111)] rfl rfl rfl rfl rfl rfl (Nat.le_of_ble_eq_true rfl) rfl ?_
  rintro _ _ ⟨rfl, rfl⟩
  refine mj_k9 rfl rfl rfl rfl rfl rfl rfl rfl ?_
  refine mj_blk h.1 b_Lw_rule_8 rfl trivial ?_
  refine mj_lasto h.1 rfl rfl (show vp_in (nI 0) 1 from vp_in_nI (by decide) (by decide)) d_Lw_rule_9 rfl ?_
  refine mj_blk h.1 b_Lw_rule_10 rfl trivial ?_
  refine mj_blk h.1 b_Lw_rule_21 rfl trivial ?_
  exact mj_iret h rfl d_Lw_rule_22 (by decide) (by decide) ⟨rfl, rfl⟩
set_option maxRecDepth 100000 in
set_option maxHeartbeats 8000000 in
theorem ew_rule_2 (l : Launch) (D : va_G) (cA : Nat → ClassId) (st : Bool) (n0 : Nat) (g : Nat → Int64) (w p : Int32) (hg : ¬ w < 0 ∧ ¬ 2 < w ∧ ¬ p < 0 ∧ p ≤ 65535) : mj_EvW zG l D cA m_Lw_rule h_rule 7 270 2 7 [.ref 50, .int w, .int p, .ref 300] [(50, cSw st 2), (53, cRs [some 100, some 110, none, none, none, none]), (300, cLg g)] [0, 40, 50, 51, 53, 60, 70, 100, 110, 300] Z_Ru TLx n0 (fun r1 w1 => r1 = some (.int 0) ∧ w1 = [(50, cSw st 3), (53, cRs [some 100, some 110, some 120, none, none, none]), (300, cLg (vp_updL g 0 (nI 2).toInt64))] ++ [(120, cRu 121 w p 0), (121, cOs [none, none, none])]) := by
  refine mj_evW (lv := [(0, .ref 50), (1, .int w), (2, .int p), (3, .ref 300)]) (by decide +kernel) (Nat.le_of_ble_eq_true rfl) rfl (fun X h hZ hX => ?_)
  refine mj_blk h.1 b_Lw_rule_0 rfl trivial ?_
  refine mj_callN h zGood hZ (ev_Sw_rule_2 l D cA st w p hg) v_Sw_rule l_Lw_rule_5 ⟨(fun _ h => nomatch h), List.forall_mem_cons.mpr ⟨List.mem_cons_self, (fun _ h => nomatch h)⟩⟩ d_Lw_rule_5 rfl ⟨by decide, by decide⟩ ⟨by decide, by decide⟩ [] [(120, 120), (121, 121)] rfl rfl rfl rfl rfl rfl (Nat.le_of_ble_eq_true rfl) rfl ?_
  rintro _ _ ⟨rfl, rfl⟩
  refine mj_k9 rfl rfl rfl rfl rfl rfl rfl rfl ?_
  refine mj_blk h.1 b_Lw_rule_8 rfl trivial ?_
  refine mj_lasto h.1 rfl rfl (show vp_in (nI 0) 1 from vp_in_nI (by decide) (by decide)) d_Lw_rule_9 rfl ?_
  refine mj_blk h.1 b_Lw_rule_10 rfl trivial ?_
  refine mj_blk h.1 b_Lw_rule_21 rfl trivial ?_
  exact mj_iret h rfl d_Lw_rule_22 (by decide) (by decide) ⟨rfl, rfl⟩
set_option maxRecDepth 100000 in
set_option maxHeartbeats 8000000 in
theorem ew_rule_3 (l : Launch) (D : va_G) (cA : Nat → ClassId) (st : Bool) (n0 : Nat) (g : Nat → Int64) (w p : Int32) (hg : ¬ w < 0 ∧ ¬ 2 < w ∧ ¬ p < 0 ∧ p ≤ 65535) : mj_EvW zG l D cA m_Lw_rule h_rule 7 270 2 7 [.ref 50, .int w, .int p, .ref 300] [(50, cSw st 3), (53, cRs [some 100, some 110, some 120, none, none, none]), (300, cLg g)] [0, 40, 50, 51, 53, 60, 70, 100, 110, 120, 300] Z_Ru TLx n0 (fun r1 w1 => r1 = some (.int 0) ∧ w1 = [(50, cSw st 4), (53, cRs [some 100, some 110, some 120, some 130, none, none]), (300, cLg (vp_updL g 0 (nI 3).toInt64))] ++ [(130, cRu 131 w p 0), (131, cOs [none, none, none])]) := by
  refine mj_evW (lv := [(0, .ref 50), (1, .int w), (2, .int p), (3, .ref 300)]) (by decide +kernel) (Nat.le_of_ble_eq_true rfl) rfl (fun X h hZ hX => ?_)
  refine mj_blk h.1 b_Lw_rule_0 rfl trivial ?_
  refine mj_callN h zGood hZ (ev_Sw_rule_3 l D cA st w p hg) v_Sw_rule l_Lw_rule_5 ⟨(fun _ h => nomatch h), List.forall_mem_cons.mpr ⟨List.mem_cons_self, (fun _ h => nomatch h)⟩⟩ d_Lw_rule_5 rfl ⟨by decide, by decide⟩ ⟨by decide, by decide⟩ [] [(130, 130), (131, 131)] rfl rfl rfl rfl rfl rfl (Nat.le_of_ble_eq_true rfl) rfl ?_
  rintro _ _ ⟨rfl, rfl⟩
  refine mj_k9 rfl rfl rfl rfl rfl rfl rfl rfl ?_
  refine mj_blk h.1 b_Lw_rule_8 rfl trivial ?_
  refine mj_lasto h.1 rfl rfl (show vp_in (nI 0) 1 from vp_in_nI (by decide) (by decide)) d_Lw_rule_9 rfl ?_
  refine mj_blk h.1 b_Lw_rule_10 rfl trivial ?_
  refine mj_blk h.1 b_Lw_rule_21 rfl trivial ?_
  exact mj_iret h rfl d_Lw_rule_22 (by decide) (by decide) ⟨rfl, rfl⟩
set_option maxRecDepth 100000 in
set_option maxHeartbeats 8000000 in
theorem ew_rule_4 (l : Launch) (D : va_G) (cA : Nat → ClassId) (st : Bool) (n0 : Nat) (g : Nat → Int64) (w p : Int32) (hg : ¬ w < 0 ∧ ¬ 2 < w ∧ ¬ p < 0 ∧ p ≤ 65535) : mj_EvW zG l D cA m_Lw_rule h_rule 7 270 2 7 [.ref 50, .int w, .int p, .ref 300] [(50, cSw st 4), (53, cRs [some 100, some 110, some 120, some 130, none, none]), (300, cLg g)] [0, 40, 50, 51, 53, 60, 70, 100, 110, 120, 130, 300] Z_Ru TLx n0 (fun r1 w1 => r1 = some (.int 0) ∧ w1 = [(50, cSw st 5), (53, cRs [some 100, some 110, some 120, some 130, some 140, none]), (300, cLg (vp_updL g 0 (nI 4).toInt64))] ++ [(140, cRu 141 w p 0), (141, cOs [none, none, none])]) := by
  refine mj_evW (lv := [(0, .ref 50), (1, .int w), (2, .int p), (3, .ref 300)]) (by decide +kernel) (Nat.le_of_ble_eq_true rfl) rfl (fun X h hZ hX => ?_)
  refine mj_blk h.1 b_Lw_rule_0 rfl trivial ?_
  refine mj_callN h zGood hZ (ev_Sw_rule_4 l D cA st w p hg) v_Sw_rule l_Lw_rule_5 ⟨(fun _ h => nomatch h), List.forall_mem_cons.mpr ⟨List.mem_cons_self, (fun _ h => nomatch h)⟩⟩ d_Lw_rule_5 rfl ⟨by decide, by decide⟩ ⟨by decide, by decide⟩ [] [(140, 140), (141, 141)] rfl rfl rfl rfl rfl rfl (Nat.le_of_ble_eq_true rfl) rfl ?_
  rintro _ _ ⟨rfl, rfl⟩
  refine mj_k9 rfl rfl rfl rfl rfl rfl rfl rfl ?_
  refine mj_blk h.1 b_Lw_rule_8 rfl trivial ?_
  refine mj_lasto h.1 rfl rfl (show vp_in (nI 0) 1 from vp_in_nI (by decide) (by decide)) d_Lw_rule_9 rfl ?_
  refine mj_blk h.1 b_Lw_rule_10 rfl trivial ?_
  refine mj_blk h.1 b_Lw_rule_21 rfl trivial ?_
  exact mj_iret h rfl d_Lw_rule_22 (by decide) (by decide) ⟨rfl, rfl⟩
set_option maxRecDepth 100000 in
set_option maxHeartbeats 8000000 in
theorem ew_rule_5 (l : Launch) (D : va_G) (cA : Nat → ClassId) (st : Bool) (n0 : Nat) (g : Nat → Int64) (w p : Int32) (hg : ¬ w < 0 ∧ ¬ 2 < w ∧ ¬ p < 0 ∧ p ≤ 65535) : mj_EvW zG l D cA m_Lw_rule h_rule 7 270 2 7 [.ref 50, .int w, .int p, .ref 300] [(50, cSw st 5), (53, cRs [some 100, some 110, some 120, some 130, some 140, none]), (300, cLg g)] [0, 40, 50, 51, 53, 60, 70, 100, 110, 120, 130, 140, 300] Z_Ru TLx n0 (fun r1 w1 => r1 = some (.int 0) ∧ w1 = [(50, cSw st 6), (53, cRs [some 100, some 110, some 120, some 130, some 140, some 150]), (300, cLg (vp_updL g 0 (nI 5).toInt64))] ++ [(150, cRu 151 w p 0), (151, cOs [none, none, none])]) := by
  refine mj_evW (lv := [(0, .ref 50), (1, .int w), (2, .int p), (3, .ref 300)]) (by decide +kernel) (Nat.le_of_ble_eq_true rfl) rfl (fun X h hZ hX => ?_)
  refine mj_blk h.1 b_Lw_rule_0 rfl trivial ?_
  refine mj_callN h zGood hZ (ev_Sw_rule_5 l D cA st w p hg) v_Sw_rule l_Lw_rule_5 ⟨(fun _ h => nomatch h), List.forall_mem_cons.mpr ⟨List.mem_cons_self, (fun _ h => nomatch h)⟩⟩ d_Lw_rule_5 rfl ⟨by decide, by decide⟩ ⟨by decide, by decide⟩ [] [(150, 150), (151, 151)] rfl rfl rfl rfl rfl rfl (Nat.le_of_ble_eq_true rfl) rfl ?_
  rintro _ _ ⟨rfl, rfl⟩
  refine mj_k9 rfl rfl rfl rfl rfl rfl rfl rfl ?_
  refine mj_blk h.1 b_Lw_rule_8 rfl trivial ?_
  refine mj_lasto h.1 rfl rfl (show vp_in (nI 0) 1 from vp_in_nI (by decide) (by decide)) d_Lw_rule_9 rfl ?_
  refine mj_blk h.1 b_Lw_rule_10 rfl trivial ?_
  refine mj_blk h.1 b_Lw_rule_21 rfl trivial ?_
  exact mj_iret h rfl d_Lw_rule_22 (by decide) (by decide) ⟨rfl, rfl⟩
set_option maxRecDepth 100000 in
set_option maxHeartbeats 8000000 in
theorem ew_rule_b (l : Launch) (hfl : l.flags = pinnedFlags ++ [noTraceFlag]) (D : va_G) (cA : Nat → ClassId) (st : Bool) (n0 : Nat) (g : Nat → Int64) (rc : Nat) (w p : Int32) (hb : ¬ (¬ w < 0 ∧ ¬ 2 < w ∧ ¬ p < 0 ∧ p ≤ 65535)) : mj_EvW zG l D cA m_Lw_rule h_rule 7 270 1 6 [.ref 50, .int w, .int p, .ref 300] [(50, cSw st rc), (300, cLg g)] [0, 40, 50, 51, 53, 60, 70, 300] Z_0 TLx n0 (fun r1 w1 => r1 = some (.int 1) ∧ w1 = [(50, cSw st rc), (300, cLg g)]) := by
  refine mj_evW (lv := [(0, .ref 50), (1, .int w), (2, .int p), (3, .ref 300)]) (by decide +kernel) (Nat.le_of_ble_eq_true rfl) rfl (fun X h hZ hX => ?_)
  refine mj_blk h.1 b_Lw_rule_0 rfl trivial ?_
  refine mj_callT h zGood hX (evT_Sw_rule l hfl D cA st n0 w p rc hb) v_Sw_rule l_Lw_rule_5 d_Lw_rule_5 rfl ⟨by decide, by decide⟩ ⟨by decide, by decide⟩ [] rfl rfl (mj_ct_in (w := [(50, cSw st rc), (300, cLg g)]) rfl).2 rfl rfl (Nat.le_of_ble_eq_true rfl) [] ⟨0, 10, 13, 13⟩ [⟨0, 10, 17, 19⟩] rfl (fun _ h => nomatch h) rfl (by decide) lw_k13 tx_ia 399 (mj_bl_no rfl) ⟨(mj_fb_ok (lv := []) (st := []) rfl).1, (mj_fb_ok (w := []) (st := []) rfl).2.1⟩ ?_
  refine mj_blk h.1 b_Lw_rule_13 rfl trivial ?_
  exact mj_iret h rfl d_Lw_rule_16 (by decide) (by decide) ⟨rfl, rfl⟩
set_option maxRecDepth 100000 in
set_option maxHeartbeats 8000000 in
theorem ew_rule_6 (l : Launch) (hfl : l.flags = pinnedFlags ++ [noTraceFlag]) (D : va_G) (cA : Nat → ClassId) (st : Bool) (n0 : Nat) (g : Nat → Int64) (w p : Int32) (hg : ¬ w < 0 ∧ ¬ 2 < w ∧ ¬ p < 0 ∧ p ≤ 65535) : mj_EvW zG l D cA m_Lw_rule h_rule 7 270 1 6 [.ref 50, .int w, .int p, .ref 300] [(50, cSw st 6), (300, cLg g)] [0, 40, 50, 51, 53, 60, 70, 300] Z_0 TLx n0 (fun r1 w1 => r1 = some (.int 2) ∧ w1 = [(50, cSw st 6), (300, cLg g)]) := by
  refine mj_evW (lv := [(0, .ref 50), (1, .int w), (2, .int p), (3, .ref 300)]) (by decide +kernel) (Nat.le_of_ble_eq_true rfl) rfl (fun X h hZ hX => ?_)
  refine mj_blk h.1 b_Lw_rule_0 rfl trivial ?_
  refine mj_callT h zGood hX (evT_Sw_rule6 l hfl D cA st n0 w p hg) v_Sw_rule l_Lw_rule_5 d_Lw_rule_5 rfl ⟨by decide, by decide⟩ ⟨by decide, by decide⟩ [] rfl rfl (mj_ct_in (w := [(50, cSw st 6), (300, cLg g)]) rfl).2 rfl rfl (Nat.le_of_ble_eq_true rfl) [⟨0, 10, 13, 13⟩] ⟨0, 10, 17, 19⟩ [] rfl (List.forall_mem_cons.mpr ⟨Or.inr ⟨by decide, _, lw_k13, tx_no⟩, (fun _ h => nomatch h)⟩) rfl (by decide) lw_k19 tx_is 399 (mj_bl_no rfl) ⟨(mj_fb_ok (lv := []) (st := []) rfl).1, (mj_fb_ok (w := []) (st := []) rfl).2.1⟩ ?_
  refine mj_blk h.1 b_Lw_rule_17 rfl trivial ?_
  exact mj_iret h rfl d_Lw_rule_20 (by decide) (by decide) ⟨rfl, rfl⟩
set_option maxRecDepth 100000 in
set_option maxHeartbeats 8000000 in
theorem ew_option_1_0 (l : Launch) (D : va_G) (cA : Nat → ClassId) (st : Bool) (n0 : Nat) (g : Nat → Int64) (wy pt : Int32) (cz : Nat) (v : Int64) (m a b : Int32) (hg : ¬ nI cz < 1 ∧ ¬ 6 < nI cz ∧ ¬ m < 0 ∧ ¬ 7 < m ∧ ¬ a < -80 ∧ ¬ 80 < a ∧ ¬ b < 0 ∧ b ≤ 80) : mj_EvW zG l D cA m_Lw_option h_option 7 270 1 7 [.ref 50, .int (nI cz), .long v, .int m, .int a, .int b, .ref 300] [(50, cSw st 1), (53, cRs [some 100, none, none, none, none, none]), (100, cRu 101 wy pt 0), (101, cOs [none, none, none]), (300, cLg g)] [0, 40, 50, 51, 53, 60, 70, 100, 101, 300] Z_0 TLx n0 (fun r1 w1 => r1 = some (.int 0) ∧ w1 = [(50, cSw st 1), (53, cRs [some 100, none, none, none, none, none]), (100, cRu 101 wy pt 1), (101, cOs [some 102, none, none]), (300, cLg (vp_updL g 0 (nI 1).toInt64))] ++ [(102, cOt (uNew cz v m a b))]) := by
  refine mj_evW (lv := [(0, .ref 50), (1, .int (nI cz)), (2, .long v), (4, .int m), (5, .int a), (6, .int b), (7, .ref 300)]) (by decide +kernel) (Nat.le_of_ble_eq_true rfl) rfl (fun X h hZ hX => ?_)
  refine mj_blk h.1 b_Lw_option_0 rfl trivial ?_
  refine mj_callN h zGood hZ (ev_Sw_option_1_0 l D cA st wy pt cz v m a b hg) v_Sw_option l_Lw_option_12 ⟨(fun _ h => nomatch h), (fun _ h => nomatch h)⟩ d_Lw_option_12 rfl ⟨by decide, by decide⟩ ⟨by decide, by decide⟩ [] [(102, 102)] rfl rfl rfl rfl rfl rfl (Nat.le_of_ble_eq_true rfl) rfl ?_
  rintro _ _ ⟨rfl, rfl⟩
  refine mj_k9 rfl rfl rfl rfl rfl rfl rfl rfl ?_
  refine mj_blk h.1 b_Lw_option_15 rfl trivial ?_
  refine mj_lasto h.1 rfl rfl (show vp_in (nI 0) 1 from vp_in_nI (by decide) (by decide)) d_Lw_option_16 rfl ?_
  refine mj_blk h.1 b_Lw_option_17 rfl trivial ?_
  refine mj_blk h.1 b_Lw_option_28 rfl trivial ?_
  exact mj_iret h rfl d_Lw_option_29 (by decide) (by decide) ⟨rfl, rfl⟩
set_option maxRecDepth 100000 in
set_option maxHeartbeats 8000000 in
theorem ew_option_1_1 (l : Launch) (D : va_G) (cA : Nat → ClassId) (st : Bool) (n0 : Nat) (g : Nat → Int64) (wy pt : Int32) (cz : Nat) (v : Int64) (m a b : Int32) (hg : ¬ nI cz < 1 ∧ ¬ 6 < nI cz ∧ ¬ m < 0 ∧ ¬ 7 < m ∧ ¬ a < -80 ∧ ¬ 80 < a ∧ ¬ b < 0 ∧ b ≤ 80) : mj_EvW zG l D cA m_Lw_option h_option 7 270 1 7 [.ref 50, .int (nI cz), .long v, .int m, .int a, .int b, .ref 300] [(50, cSw st 1), (53, cRs [some 100, none, none, none, none, none]), (100, cRu 101 wy pt 1), (101, cOs [some 102, none, none]), (300, cLg g)] [0, 40, 50, 51, 53, 60, 70, 100, 101, 102, 300] Z_0 TLx n0 (fun r1 w1 => r1 = some (.int 0) ∧ w1 = [(50, cSw st 1), (53, cRs [some 100, none, none, none, none, none]), (100, cRu 101 wy pt 2), (101, cOs [some 102, some 103, none]), (300, cLg (vp_updL g 0 (nI 2).toInt64))] ++ [(103, cOt (uNew cz v m a b))]) := by
  refine mj_evW (lv := [(0, .ref 50), (1, .int (nI cz)), (2, .long v), (4, .int m), (5, .int a), (6, .int b), (7, .ref 300)]) (by decide +kernel) (Nat.le_of_ble_eq_true rfl) rfl (fun X h hZ hX => ?_)
  refine mj_blk h.1 b_Lw_option_0 rfl trivial ?_
  refine mj_callN h zGood hZ (ev_Sw_option_1_1 l D cA st wy pt cz v m a b hg) v_Sw_option l_Lw_option_12 ⟨(fun _ h => nomatch h), (fun _ h => nomatch h)⟩ d_Lw_option_12 rfl ⟨by decide, by decide⟩ ⟨by decide, by decide⟩ [] [(103, 103)] rfl rfl rfl rfl rfl rfl (Nat.le_of_ble_eq_true rfl) rfl ?_
  rintro _ _ ⟨rfl, rfl⟩
  refine mj_k9 rfl rfl rfl rfl rfl rfl rfl rfl ?_
  refine mj_blk h.1 b_Lw_option_15 rfl trivial ?_
  refine mj_lasto h.1 rfl rfl (show vp_in (nI 0) 1 from vp_in_nI (by decide) (by decide)) d_Lw_option_16 rfl ?_
  refine mj_blk h.1 b_Lw_option_17 rfl trivial ?_
  refine mj_blk h.1 b_Lw_option_28 rfl trivial ?_
  exact mj_iret h rfl d_Lw_option_29 (by decide) (by decide) ⟨rfl, rfl⟩
set_option maxRecDepth 100000 in
set_option maxHeartbeats 8000000 in
theorem ew_option_1_2 (l : Launch) (D : va_G) (cA : Nat → ClassId) (st : Bool) (n0 : Nat) (g : Nat → Int64) (wy pt : Int32) (cz : Nat) (v : Int64) (m a b : Int32) (hg : ¬ nI cz < 1 ∧ ¬ 6 < nI cz ∧ ¬ m < 0 ∧ ¬ 7 < m ∧ ¬ a < -80 ∧ ¬ 80 < a ∧ ¬ b < 0 ∧ b ≤ 80) : mj_EvW zG l D cA m_Lw_option h_option 7 270 1 7 [.ref 50, .int (nI cz), .long v, .int m, .int a, .int b, .ref 300] [(50, cSw st 1), (53, cRs [some 100, none, none, none, none, none]), (100, cRu 101 wy pt 2), (101, cOs [some 102, some 103, none]), (300, cLg g)] [0, 40, 50, 51, 53, 60, 70, 100, 101, 102, 103, 300] Z_0 TLx n0 (fun r1 w1 => r1 = some (.int 0) ∧ w1 = [(50, cSw st 1), (53, cRs [some 100, none, none, none, none, none]), (100, cRu 101 wy pt 3), (101, cOs [some 102, some 103, some 104]), (300, cLg (vp_updL g 0 (nI 3).toInt64))] ++ [(104, cOt (uNew cz v m a b))]) := by
  refine mj_evW (lv := [(0, .ref 50), (1, .int (nI cz)), (2, .long v), (4, .int m), (5, .int a), (6, .int b), (7, .ref 300)]) (by decide +kernel) (Nat.le_of_ble_eq_true rfl) rfl (fun X h hZ hX => ?_)
  refine mj_blk h.1 b_Lw_option_0 rfl trivial ?_
  refine mj_callN h zGood hZ (ev_Sw_option_1_2 l D cA st wy pt cz v m a b hg) v_Sw_option l_Lw_option_12 ⟨(fun _ h => nomatch h), (fun _ h => nomatch h)⟩ d_Lw_option_12 rfl ⟨by decide, by decide⟩ ⟨by decide, by decide⟩ [] [(104, 104)] rfl rfl rfl rfl rfl rfl (Nat.le_of_ble_eq_true rfl) rfl ?_
  rintro _ _ ⟨rfl, rfl⟩
  refine mj_k9 rfl rfl rfl rfl rfl rfl rfl rfl ?_
  refine mj_blk h.1 b_Lw_option_15 rfl trivial ?_
  refine mj_lasto h.1 rfl rfl (show vp_in (nI 0) 1 from vp_in_nI (by decide) (by decide)) d_Lw_option_16 rfl ?_
  refine mj_blk h.1 b_Lw_option_17 rfl trivial ?_
  refine mj_blk h.1 b_Lw_option_28 rfl trivial ?_
  exact mj_iret h rfl d_Lw_option_29 (by decide) (by decide) ⟨rfl, rfl⟩
set_option maxRecDepth 100000 in
set_option maxHeartbeats 8000000 in
theorem ew_option_2_0 (l : Launch) (D : va_G) (cA : Nat → ClassId) (st : Bool) (n0 : Nat) (g : Nat → Int64) (wy pt : Int32) (cz : Nat) (v : Int64) (m a b : Int32) (hg : ¬ nI cz < 1 ∧ ¬ 6 < nI cz ∧ ¬ m < 0 ∧ ¬ 7 < m ∧ ¬ a < -80 ∧ ¬ 80 < a ∧ ¬ b < 0 ∧ b ≤ 80) : mj_EvW zG l D cA m_Lw_option h_option 7 270 1 7 [.ref 50, .int (nI cz), .long v, .int m, .int a, .int b, .ref 300] [(50, cSw st 2), (53, cRs [some 100, some 110, none, none, none, none]), (110, cRu 111 wy pt 0), (111, cOs [none, none, none]), (300, cLg g)] [0, 40, 50, 51, 53, 60, 70, 100, 110, 111, 300] Z_0 TLx n0 (fun r1 w1 => r1 = some (.int 0) ∧ w1 = [(50, cSw st 2), (53, cRs [some 100, some 110, none, none, none, none]), (110, cRu 111 wy pt 1), (111, cOs [some 112, none, none]), (300, cLg (vp_updL g 0 (nI 1).toInt64))] ++ [(112, cOt (uNew cz v m a b))]) := by
  refine mj_evW (lv := [(0, .ref 50), (1, .int (nI cz)), (2, .long v), (4, .int m), (5, .int a), (6, .int b), (7, .ref 300)]) (by decide +kernel) (Nat.le_of_ble_eq_true rfl) rfl (fun X h hZ hX => ?_)
  refine mj_blk h.1 b_Lw_option_0 rfl trivial ?_
  refine mj_callN h zGood hZ (ev_Sw_option_2_0 l D cA st wy pt cz v m a b hg) v_Sw_option l_Lw_option_12 ⟨(fun _ h => nomatch h), (fun _ h => nomatch h)⟩ d_Lw_option_12 rfl ⟨by decide, by decide⟩ ⟨by decide, by decide⟩ [] [(112, 112)] rfl rfl rfl rfl rfl rfl (Nat.le_of_ble_eq_true rfl) rfl ?_
  rintro _ _ ⟨rfl, rfl⟩
  refine mj_k9 rfl rfl rfl rfl rfl rfl rfl rfl ?_
  refine mj_blk h.1 b_Lw_option_15 rfl trivial ?_
  refine mj_lasto h.1 rfl rfl (show vp_in (nI 0) 1 from vp_in_nI (by decide) (by decide)) d_Lw_option_16 rfl ?_
  refine mj_blk h.1 b_Lw_option_17 rfl trivial ?_
  refine mj_blk h.1 b_Lw_option_28 rfl trivial ?_
  exact mj_iret h rfl d_Lw_option_29 (by decide) (by decide) ⟨rfl, rfl⟩
set_option maxRecDepth 100000 in
set_option maxHeartbeats 8000000 in
theorem ew_option_2_1 (l : Launch) (D : va_G) (cA : Nat → ClassId) (st : Bool) (n0 : Nat) (g : Nat → Int64) (wy pt : Int32) (cz : Nat) (v : Int64) (m a b : Int32) (hg : ¬ nI cz < 1 ∧ ¬ 6 < nI cz ∧ ¬ m < 0 ∧ ¬ 7 < m ∧ ¬ a < -80 ∧ ¬ 80 < a ∧ ¬ b < 0 ∧ b ≤ 80) : mj_EvW zG l D cA m_Lw_option h_option 7 270 1 7 [.ref 50, .int (nI cz), .long v, .int m, .int a, .int b, .ref 300] [(50, cSw st 2), (53, cRs [some 100, some 110, none, none, none, none]), (110, cRu 111 wy pt 1), (111, cOs [some 112, none, none]), (300, cLg g)] [0, 40, 50, 51, 53, 60, 70, 100, 110, 111, 112, 300] Z_0 TLx n0 (fun r1 w1 => r1 = some (.int 0) ∧ w1 = [(50, cSw st 2), (53, cRs [some 100, some 110, none, none, none, none]), (110, cRu 111 wy pt 2), (111, cOs [some 112, some 113, none]), (300, cLg (vp_updL g 0 (nI 2).toInt64))] ++ [(113, cOt (uNew cz v m a b))]) := by
  refine mj_evW (lv := [(0, .ref 50), (1, .int (nI cz)), (2, .long v), (4, .int m), (5, .int a), (6, .int b), (7, .ref 300)]) (by decide +kernel) (Nat.le_of_ble_eq_true rfl) rfl (fun X h hZ hX => ?_)
  refine mj_blk h.1 b_Lw_option_0 rfl trivial ?_
  refine mj_callN h zGood hZ (ev_Sw_option_2_1 l D cA st wy pt cz v m a b hg) v_Sw_option l_Lw_option_12 ⟨(fun _ h => nomatch h), (fun _ h => nomatch h)⟩ d_Lw_option_12 rfl ⟨by decide, by decide⟩ ⟨by decide, by decide⟩ [] [(113, 113)] rfl rfl rfl rfl rfl rfl (Nat.le_of_ble_eq_true rfl) rfl ?_
  rintro _ _ ⟨rfl, rfl⟩
  refine mj_k9 rfl rfl rfl rfl rfl rfl rfl rfl ?_
  refine mj_blk h.1 b_Lw_option_15 rfl trivial ?_
  refine mj_lasto h.1 rfl rfl (show vp_in (nI 0) 1 from vp_in_nI (by decide) (by decide)) d_Lw_option_16 rfl ?_
  refine mj_blk h.1 b_Lw_option_17 rfl trivial ?_
  refine mj_blk h.1 b_Lw_option_28 rfl trivial ?_
  exact mj_iret h rfl d_Lw_option_29 (by decide) (by decide) ⟨rfl, rfl⟩
set_option maxRecDepth 100000 in
set_option maxHeartbeats 8000000 in
theorem ew_option_2_2 (l : Launch) (D : va_G) (cA : Nat → ClassId) (st : Bool) (n0 : Nat) (g : Nat → Int64) (wy pt : Int32) (cz : Nat) (v : Int64) (m a b : Int32) (hg : ¬ nI cz < 1 ∧ ¬ 6 < nI cz ∧ ¬ m < 0 ∧ ¬ 7 < m ∧ ¬ a < -80 ∧ ¬ 80 < a ∧ ¬ b < 0 ∧ b ≤ 80) : mj_EvW zG l D cA m_Lw_option h_option 7 270 1 7 [.ref 50, .int (nI cz), .long v, .int m, .int a, .int b, .ref 300] [(50, cSw st 2), (53, cRs [some 100, some 110, none, none, none, none]), (110, cRu 111 wy pt 2), (111, cOs [some 112, some 113, none]), (300, cLg g)] [0, 40, 50, 51, 53, 60, 70, 100, 110, 111, 112, 113, 300] Z_0 TLx n0 (fun r1 w1 => r1 = some (.int 0) ∧ w1 = [(50, cSw st 2), (53, cRs [some 100, some 110, none, none, none, none]), (110, cRu 111 wy pt 3), (111, cOs [some 112, some 113, some 114]), (300, cLg (vp_updL g 0 (nI 3).toInt64))] ++ [(114, cOt (uNew cz v m a b))]) := by
  refine mj_evW (lv := [(0, .ref 50), (1, .int (nI cz)), (2, .long v), (4, .int m), (5, .int a), (6, .int b), (7, .ref 300)]) (by decide +kernel) (Nat.le_of_ble_eq_true rfl) rfl (fun X h hZ hX => ?_)
  refine mj_blk h.1 b_Lw_option_0 rfl trivial ?_
  refine mj_callN h zGood hZ (ev_Sw_option_2_2 l D cA st wy pt cz v m a b hg) v_Sw_option l_Lw_option_12 ⟨(fun _ h => nomatch h), (fun _ h => nomatch h)⟩ d_Lw_option_12 rfl ⟨by decide, by decide⟩ ⟨by decide, by decide⟩ [] [(114, 114)] rfl rfl rfl rfl rfl rfl (Nat.le_of_ble_eq_true rfl) rfl ?_
  rintro _ _ ⟨rfl, rfl⟩
  refine mj_k9 rfl rfl rfl rfl rfl rfl rfl rfl ?_
  refine mj_blk h.1 b_Lw_option_15 rfl trivial ?_
  refine mj_lasto h.1 rfl rfl (show vp_in (nI 0) 1 from vp_in_nI (by decide) (by decide)) d_Lw_option_16 rfl ?_
  refine mj_blk h.1 b_Lw_option_17 rfl trivial ?_
  refine mj_blk h.1 b_Lw_option_28 rfl trivial ?_
  exact mj_iret h rfl d_Lw_option_29 (by decide) (by decide) ⟨rfl, rfl⟩
set_option maxRecDepth 100000 in
set_option maxHeartbeats 8000000 in
theorem ew_option_3_0 (l : Launch) (D : va_G) (cA : Nat → ClassId) (st : Bool) (n0 : Nat) (g : Nat → Int64) (wy pt : Int32) (cz : Nat) (v : Int64) (m a b : Int32) (hg : ¬ nI cz < 1 ∧ ¬ 6 < nI cz ∧ ¬ m < 0 ∧ ¬ 7 < m ∧ ¬ a < -80 ∧ ¬ 80 < a ∧ ¬ b < 0 ∧ b ≤ 80) : mj_EvW zG l D cA m_Lw_option h_option 7 270 1 7 [.ref 50, .int (nI cz), .long v, .int m, .int a, .int b, .ref 300] [(50, cSw st 3), (53, cRs [some 100, some 110, some 120, none, none, none]), (120, cRu 121 wy pt 0), (121, cOs [none, none, none]), (300, cLg g)] [0, 40, 50, 51, 53, 60, 70, 100, 110, 120, 121, 300] Z_0 TLx n0 (fun r1 w1 => r1 = some (.int 0) ∧ w1 = [(50, cSw st 3), (53, cRs [some 100, some 110, some 120, none, none, none]), (120, cRu 121 wy pt 1), (121, cOs [some 122, none, none]), (300, cLg (vp_updL g 0 (nI 1).toInt64))] ++ [(122, cOt (uNew cz v m a b))]) := by
  refine mj_evW (lv := [(0, .ref 50), (1, .int (nI cz)), (2, .long v), (4, .int m), (5, .int a), (6, .int b), (7, .ref 300)]) (by decide +kernel) (Nat.le_of_ble_eq_true rfl) rfl (fun X h hZ hX => ?_)
  refine mj_blk h.1 b_Lw_option_0 rfl trivial ?_
  refine mj_callN h zGood hZ (ev_Sw_option_3_0 l D cA st wy pt cz v m a b hg) v_Sw_option l_Lw_option_12 ⟨(fun _ h => nomatch h), (fun _ h => nomatch h)⟩ d_Lw_option_12 rfl ⟨by decide, by decide⟩ ⟨by decide, by decide⟩ [] [(122, 122)] rfl rfl rfl rfl rfl rfl (Nat.le_of_ble_eq_true rfl) rfl ?_
  rintro _ _ ⟨rfl, rfl⟩
  refine mj_k9 rfl rfl rfl rfl rfl rfl rfl rfl ?_
  refine mj_blk h.1 b_Lw_option_15 rfl trivial ?_
  refine mj_lasto h.1 rfl rfl (show vp_in (nI 0) 1 from vp_in_nI (by decide) (by decide)) d_Lw_option_16 rfl ?_
  refine mj_blk h.1 b_Lw_option_17 rfl trivial ?_
  refine mj_blk h.1 b_Lw_option_28 rfl trivial ?_
  exact mj_iret h rfl d_Lw_option_29 (by decide) (by decide) ⟨rfl, rfl⟩
set_option maxRecDepth 100000 in
set_option maxHeartbeats 8000000 in
theorem ew_option_3_1 (l : Launch) (D : va_G) (cA : Nat → ClassId) (st : Bool) (n0 : Nat) (g : Nat → Int64) (wy pt : Int32) (cz : Nat) (v : Int64) (m a b : Int32) (hg : ¬ nI cz < 1 ∧ ¬ 6 < nI cz ∧ ¬ m < 0 ∧ ¬ 7 < m ∧ ¬ a < -80 ∧ ¬ 80 < a ∧ ¬ b < 0 ∧ b ≤ 80) : mj_EvW zG l D cA m_Lw_option h_option 7 270 1 7 [.ref 50, .int (nI cz), .long v, .int m, .int a, .int b, .ref 300] [(50, cSw st 3), (53, cRs [some 100, some 110, some 120, none, none, none]), (120, cRu 121 wy pt 1), (121, cOs [some 122, none, none]), (300, cLg g)] [0, 40, 50, 51, 53, 60, 70, 100, 110, 120, 121, 122, 300] Z_0 TLx n0 (fun r1 w1 => r1 = some (.int 0) ∧ w1 = [(50, cSw st 3), (53, cRs [some 100, some 110, some 120, none, none, none]), (120, cRu 121 wy pt 2), (121, cOs [some 122, some 123, none]), (300, cLg (vp_updL g 0 (nI 2).toInt64))] ++ [(123, cOt (uNew cz v m a b))]) := by
  refine mj_evW (lv := [(0, .ref 50), (1, .int (nI cz)), (2, .long v), (4, .int m), (5, .int a), (6, .int b), (7, .ref 300)]) (by decide +kernel) (Nat.le_of_ble_eq_true rfl) rfl (fun X h hZ hX => ?_)
  refine mj_blk h.1 b_Lw_option_0 rfl trivial ?_
  refine mj_callN h zGood hZ (ev_Sw_option_3_1 l D cA st wy pt cz v m a b hg) v_Sw_option l_Lw_option_12 ⟨(fun _ h => nomatch h), (fun _ h => nomatch h)⟩ d_Lw_option_12 rfl ⟨by decide, by decide⟩ ⟨by decide, by decide⟩ [] [(123, 123)] rfl rfl rfl rfl rfl rfl (Nat.le_of_ble_eq_true rfl) rfl ?_
  rintro _ _ ⟨rfl, rfl⟩
  refine mj_k9 rfl rfl rfl rfl rfl rfl rfl rfl ?_
  refine mj_blk h.1 b_Lw_option_15 rfl trivial ?_
  refine mj_lasto h.1 rfl rfl (show vp_in (nI 0) 1 from vp_in_nI (by decide) (by decide)) d_Lw_option_16 rfl ?_
  refine mj_blk h.1 b_Lw_option_17 rfl trivial ?_
  refine mj_blk h.1 b_Lw_option_28 rfl trivial ?_
  exact mj_iret h rfl d_Lw_option_29 (by decide) (by decide) ⟨rfl, rfl⟩
set_option maxRecDepth 100000 in
set_option maxHeartbeats 8000000 in
theorem ew_option_3_2 (l : Launch) (D : va_G) (cA : Nat → ClassId) (st : Bool) (n0 : Nat) (g : Nat → Int64) (wy pt : Int32) (cz : Nat) (v : Int64) (m a b : Int32) (hg : ¬ nI cz < 1 ∧ ¬ 6 < nI cz ∧ ¬ m < 0 ∧ ¬ 7 < m ∧ ¬ a < -80 ∧ ¬ 80 < a ∧ ¬ b < 0 ∧ b ≤ 80) : mj_EvW zG l D cA m_Lw_option h_option 7 270 1 7 [.ref 50, .int (nI cz), .long v, .int m, .int a, .int b, .ref 300] [(50, cSw st 3), (53, cRs [some 100, some 110, some 120, none, none, none]), (120, cRu 121 wy pt 2), (121, cOs [some 122, some 123, none]), (300, cLg g)] [0, 40, 50, 51, 53, 60, 70, 100, 110, 120, 121, 122, 123, 300] Z_0 TLx n0 (fun r1 w1 => r1 = some (.int 0) ∧ w1 = [(50, cSw st 3), (53, cRs [some 100, some 110, some 120, none, none, none]), (120, cRu 121 wy pt 3), (121, cOs [some 122, some 123, some 124]), (300, cLg (vp_updL g 0 (nI 3).toInt64))] ++ [(124, cOt (uNew cz v m a b))]) := by
  refine mj_evW (lv := [(0, .ref 50), (1, .int (nI cz)), (2, .long v), (4, .int m), (5, .int a), (6, .int b), (7, .ref 300)]) (by decide +kernel) (Nat.le_of_ble_eq_true rfl) rfl (fun X h hZ hX => ?_)
  refine mj_blk h.1 b_Lw_option_0 rfl trivial ?_
  refine mj_callN h zGood hZ (ev_Sw_option_3_2 l D cA st wy pt cz v m a b hg) v_Sw_option l_Lw_option_12 ⟨(fun _ h => nomatch h), (fun _ h => nomatch h)⟩ d_Lw_option_12 rfl ⟨by decide, by decide⟩ ⟨by decide, by decide⟩ [] [(124, 124)] rfl rfl rfl rfl rfl rfl (Nat.le_of_ble_eq_true rfl) rfl ?_
  rintro _ _ ⟨rfl, rfl⟩
  refine mj_k9 rfl rfl rfl rfl rfl rfl rfl rfl ?_
  refine mj_blk h.1 b_Lw_option_15 rfl trivial ?_
  refine mj_lasto h.1 rfl rfl (show vp_in (nI 0) 1 from vp_in_nI (by decide) (by decide)) d_Lw_option_16 rfl ?_
  refine mj_blk h.1 b_Lw_option_17 rfl trivial ?_
  refine mj_blk h.1 b_Lw_option_28 rfl trivial ?_
  exact mj_iret h rfl d_Lw_option_29 (by decide) (by decide) ⟨rfl, rfl⟩
set_option maxRecDepth 100000 in
set_option maxHeartbeats 8000000 in
theorem ew_option_4_0 (l : Launch) (D : va_G) (cA : Nat → ClassId) (st : Bool) (n0 : Nat) (g : Nat → Int64) (wy pt : Int32) (cz : Nat) (v : Int64) (m a b : Int32) (hg : ¬ nI cz < 1 ∧ ¬ 6 < nI cz ∧ ¬ m < 0 ∧ ¬ 7 < m ∧ ¬ a < -80 ∧ ¬ 80 < a ∧ ¬ b < 0 ∧ b ≤ 80) : mj_EvW zG l D cA m_Lw_option h_option 7 270 1 7 [.ref 50, .int (nI cz), .long v, .int m, .int a, .int b, .ref 300] [(50, cSw st 4), (53, cRs [some 100, some 110, some 120, some 130, none, none]), (130, cRu 131 wy pt 0), (131, cOs [none, none, none]), (300, cLg g)] [0, 40, 50, 51, 53, 60, 70, 100, 110, 120, 130, 131, 300] Z_0 TLx n0 (fun r1 w1 => r1 = some (.int 0) ∧ w1 = [(50, cSw st 4), (53, cRs [some 100, some 110, some 120, some 130, none, none]), (130, cRu 131 wy pt 1), (131, cOs [some 132, none, none]), (300, cLg (vp_updL g 0 (nI 1).toInt64))] ++ [(132, cOt (uNew cz v m a b))]) := by
  refine mj_evW (lv := [(0, .ref 50), (1, .int (nI cz)), (2, .long v), (4, .int m), (5, .int a), (6, .int b), (7, .ref 300)]) (by decide +kernel) (Nat.le_of_ble_eq_true rfl) rfl (fun X h hZ hX => ?_)
  refine mj_blk h.1 b_Lw_option_0 rfl trivial ?_
  refine mj_callN h zGood hZ (ev_Sw_option_4_0 l D cA st wy pt cz v m a b hg) v_Sw_option l_Lw_option_12 ⟨(fun _ h => nomatch h), (fun _ h => nomatch h)⟩ d_Lw_option_12 rfl ⟨by decide, by decide⟩ ⟨by decide, by decide⟩ [] [(132, 132)] rfl rfl rfl rfl rfl rfl (Nat.le_of_ble_eq_true rfl) rfl ?_
  rintro _ _ ⟨rfl, rfl⟩
  refine mj_k9 rfl rfl rfl rfl rfl rfl rfl rfl ?_
  refine mj_blk h.1 b_Lw_option_15 rfl trivial ?_
  refine mj_lasto h.1 rfl rfl (show vp_in (nI 0) 1 from vp_in_nI (by decide) (by decide)) d_Lw_option_16 rfl ?_
  refine mj_blk h.1 b_Lw_option_17 rfl trivial ?_
  refine mj_blk h.1 b_Lw_option_28 rfl trivial ?_
  exact mj_iret h rfl d_Lw_option_29 (by decide) (by decide) ⟨rfl, rfl⟩
set_option maxRecDepth 100000 in
set_option maxHeartbeats 8000000 in
theorem ew_option_4_1 (l : Launch) (D : va_G) (cA : Nat → ClassId) (st : Bool) (n0 : Nat) (g : Nat → Int64) (wy pt : Int32) (cz : Nat) (v : Int64) (m a b : Int32) (hg : ¬ nI cz < 1 ∧ ¬ 6 < nI cz ∧ ¬ m < 0 ∧ ¬ 7 < m ∧ ¬ a < -80 ∧ ¬ 80 < a ∧ ¬ b < 0 ∧ b ≤ 80) : mj_EvW zG l D cA m_Lw_option h_option 7 270 1 7 [.ref 50, .int (nI cz), .long v, .int m, .int a, .int b, .ref 300] [(50, cSw st 4), (53, cRs [some 100, some 110, some 120, some 130, none, none]), (130, cRu 131 wy pt 1), (131, cOs [some 132, none, none]), (300, cLg g)] [0, 40, 50, 51, 53, 60, 70, 100, 110, 120, 130, 131, 132, 300] Z_0 TLx n0 (fun r1 w1 => r1 = some (.int 0) ∧ w1 = [(50, cSw st 4), (53, cRs [some 100, some 110, some 120, some 130, none, none]), (130, cRu 131 wy pt 2), (131, cOs [some 132, some 133, none]), (300, cLg (vp_updL g 0 (nI 2).toInt64))] ++ [(133, cOt (uNew cz v m a b))]) := by
  refine mj_evW (lv := [(0, .ref 50), (1, .int (nI cz)), (2, .long v), (4, .int m), (5, .int a), (6, .int b), (7, .ref 300)]) (by decide +kernel) (Nat.le_of_ble_eq_true rfl) rfl (fun X h hZ hX => ?_)
  refine mj_blk h.1 b_Lw_option_0 rfl trivial ?_
  refine mj_callN h zGood hZ (ev_Sw_option_4_1 l D cA st wy pt cz v m a b hg) v_Sw_option l_Lw_option_12 ⟨(fun _ h => nomatch h), (fun _ h => nomatch h)⟩ d_Lw_option_12 rfl ⟨by decide, by decide⟩ ⟨by decide, by decide⟩ [] [(133, 133)] rfl rfl rfl rfl rfl rfl (Nat.le_of_ble_eq_true rfl) rfl ?_
  rintro _ _ ⟨rfl, rfl⟩
  refine mj_k9 rfl rfl rfl rfl rfl rfl rfl rfl ?_
  refine mj_blk h.1 b_Lw_option_15 rfl trivial ?_
  refine mj_lasto h.1 rfl rfl (show vp_in (nI 0) 1 from vp_in_nI (by decide) (by decide)) d_Lw_option_16 rfl ?_
  refine mj_blk h.1 b_Lw_option_17 rfl trivial ?_
  refine mj_blk h.1 b_Lw_option_28 rfl trivial ?_
  exact mj_iret h rfl d_Lw_option_29 (by decide) (by decide) ⟨rfl, rfl⟩
set_option maxRecDepth 100000 in
set_option maxHeartbeats 8000000 in
theorem ew_option_4_2 (l : Launch) (D : va_G) (cA : Nat → ClassId) (st : Bool) (n0 : Nat) (g : Nat → Int64) (wy pt : Int32) (cz : Nat) (v : Int64) (m a b : Int32) (hg : ¬ nI cz < 1 ∧ ¬ 6 < nI cz ∧ ¬ m < 0 ∧ ¬ 7 < m ∧ ¬ a < -80 ∧ ¬ 80 < a ∧ ¬ b < 0 ∧ b ≤ 80) : mj_EvW zG l D cA m_Lw_option h_option 7 270 1 7 [.ref 50, .int (nI cz), .long v, .int m, .int a, .int b, .ref 300] [(50, cSw st 4), (53, cRs [some 100, some 110, some 120, some 130, none, none]), (130, cRu 131 wy pt 2), (131, cOs [some 132, some 133, none]), (300, cLg g)] [0, 40, 50, 51, 53, 60, 70, 100, 110, 120, 130, 131, 132, 133, 300] Z_0 TLx n0 (fun r1 w1 => r1 = some (.int 0) ∧ w1 = [(50, cSw st 4), (53, cRs [some 100, some 110, some 120, some 130, none, none]), (130, cRu 131 wy pt 3), (131, cOs [some 132, some 133, some 134]), (300, cLg (vp_updL g 0 (nI 3).toInt64))] ++ [(134, cOt (uNew cz v m a b))]) := by
  refine mj_evW (lv := [(0, .ref 50), (1, .int (nI cz)), (2, .long v), (4, .int m), (5, .int a), (6, .int b), (7, .ref 300)]) (by decide +kernel) (Nat.le_of_ble_eq_true rfl) rfl (fun X h hZ hX => ?_)
  refine mj_blk h.1 b_Lw_option_0 rfl trivial ?_
  refine mj_callN h zGood hZ (ev_Sw_option_4_2 l D cA st wy pt cz v m a b hg) v_Sw_option l_Lw_option_12 ⟨(fun _ h => nomatch h), (fun _ h => nomatch h)⟩ d_Lw_option_12 rfl ⟨by decide, by decide⟩ ⟨by decide, by decide⟩ [] [(134, 134)] rfl rfl rfl rfl rfl rfl (Nat.le_of_ble_eq_true rfl) rfl ?_
  rintro _ _ ⟨rfl, rfl⟩
  refine mj_k9 rfl rfl rfl rfl rfl rfl rfl rfl ?_
  refine mj_blk h.1 b_Lw_option_15 rfl trivial ?_
  refine mj_lasto h.1 rfl rfl (show vp_in (nI 0) 1 from vp_in_nI (by decide) (by decide)) d_Lw_option_16 rfl ?_
  refine mj_blk h.1 b_Lw_option_17 rfl trivial ?_
  refine mj_blk h.1 b_Lw_option_28 rfl trivial ?_
  exact mj_iret h rfl d_Lw_option_29 (by decide) (by decide) ⟨rfl, rfl⟩
set_option maxRecDepth 100000 in
set_option maxHeartbeats 8000000 in
theorem ew_option_5_0 (l : Launch) (D : va_G) (cA : Nat → ClassId) (st : Bool) (n0 : Nat) (g : Nat → Int64) (wy pt : Int32) (cz : Nat) (v : Int64) (m a b : Int32) (hg : ¬ nI cz < 1 ∧ ¬ 6 < nI cz ∧ ¬ m < 0 ∧ ¬ 7 < m ∧ ¬ a < -80 ∧ ¬ 80 < a ∧ ¬ b < 0 ∧ b ≤ 80) : mj_EvW zG l D cA m_Lw_option h_option 7 270 1 7 [.ref 50, .int (nI cz), .long v, .int m, .int a, .int b, .ref 300] [(50, cSw st 5), (53, cRs [some 100, some 110, some 120, some 130, some 140, none]), (140, cRu 141 wy pt 0), (141, cOs [none, none, none]), (300, cLg g)] [0, 40, 50, 51, 53, 60, 70, 100, 110, 120, 130, 140, 141, 300] Z_0 TLx n0 (fun r1 w1 => r1 = some (.int 0) ∧ w1 = [(50, cSw st 5), (53, cRs [some 100, some 110, some 120, some 130, some 140, none]), (140, cRu 141 wy pt 1), (141, cOs [some 142, none, none]), (300, cLg (vp_updL g 0 (nI 1).toInt64))] ++ [(142, cOt (uNew cz v m a b))]) := by
  refine mj_evW (lv := [(0, .ref 50), (1, .int (nI cz)), (2, .long v), (4, .int m), (5, .int a), (6, .int b), (7, .ref 300)]) (by decide +kernel) (Nat.le_of_ble_eq_true rfl) rfl (fun X h hZ hX => ?_)
  refine mj_blk h.1 b_Lw_option_0 rfl trivial ?_
  refine mj_callN h zGood hZ (ev_Sw_option_5_0 l D cA st wy pt cz v m a b hg) v_Sw_option l_Lw_option_12 ⟨(fun _ h => nomatch h), (fun _ h => nomatch h)⟩ d_Lw_option_12 rfl ⟨by decide, by decide⟩ ⟨by decide, by decide⟩ [] [(142, 142)] rfl rfl rfl rfl rfl rfl (Nat.le_of_ble_eq_true rfl) rfl ?_
  rintro _ _ ⟨rfl, rfl⟩
  refine mj_k9 rfl rfl rfl rfl rfl rfl rfl rfl ?_
  refine mj_blk h.1 b_Lw_option_15 rfl trivial ?_
  refine mj_lasto h.1 rfl rfl (show vp_in (nI 0) 1 from vp_in_nI (by decide) (by decide)) d_Lw_option_16 rfl ?_
  refine mj_blk h.1 b_Lw_option_17 rfl trivial ?_
  refine mj_blk h.1 b_Lw_option_28 rfl trivial ?_
  exact mj_iret h rfl d_Lw_option_29 (by decide) (by decide) ⟨rfl, rfl⟩
set_option maxRecDepth 100000 in
set_option maxHeartbeats 8000000 in
theorem ew_option_5_1 (l : Launch) (D : va_G) (cA : Nat → ClassId) (st : Bool) (n0 : Nat) (g : Nat → Int64) (wy pt : Int32) (cz : Nat) (v : Int64) (m a b : Int32) (hg : ¬ nI cz < 1 ∧ ¬ 6 < nI cz ∧ ¬ m < 0 ∧ ¬ 7 < m ∧ ¬ a < -80 ∧ ¬ 80 < a ∧ ¬ b < 0 ∧ b ≤ 80) : mj_EvW zG l D cA m_Lw_option h_option 7 270 1 7 [.ref 50, .int (nI cz), .long v, .int m, .int a, .int b, .ref 300] [(50, cSw st 5), (53, cRs [some 100, some 110, some 120, some 130, some 140, none]), (140, cRu 141 wy pt 1), (141, cOs [some 142, none, none]), (300, cLg g)] [0, 40, 50, 51, 53, 60, 70, 100, 110, 120, 130, 140, 141, 142, 300] Z_0 TLx n0 (fun r1 w1 => r1 = some (.int 0) ∧ w1 = [(50, cSw st 5), (53, cRs [some 100, some 110, some 120, some 130, some 140, none]), (140, cRu 141 wy pt 2), (141, cOs [some 142, some 143, none]), (300, cLg (vp_updL g 0 (nI 2).toInt64))] ++ [(143, cOt (uNew cz v m a b))]) := by
  refine mj_evW (lv := [(0, .ref 50), (1, .int (nI cz)), (2, .long v), (4, .int m), (5, .int a), (6, .int b), (7, .ref 300)]) (by decide +kernel) (Nat.le_of_ble_eq_true rfl) rfl (fun X h hZ hX => ?_)
  refine mj_blk h.1 b_Lw_option_0 rfl trivial ?_
  refine mj_callN h zGood hZ (ev_Sw_option_5_1 l D cA st wy pt cz v m a b hg) v_Sw_option l_Lw_option_12 ⟨(fun _ h => nomatch h), (fun _ h => nomatch h)⟩ d_Lw_option_12 rfl ⟨by decide, by decide⟩ ⟨by decide, by decide⟩ [] [(143, 143)] rfl rfl rfl rfl rfl rfl (Nat.le_of_ble_eq_true rfl) rfl ?_
  rintro _ _ ⟨rfl, rfl⟩
  refine mj_k9 rfl rfl rfl rfl rfl rfl rfl rfl ?_
  refine mj_blk h.1 b_Lw_option_15 rfl trivial ?_
  refine mj_lasto h.1 rfl rfl (show vp_in (nI 0) 1 from vp_in_nI (by decide) (by decide)) d_Lw_option_16 rfl ?_
  refine mj_blk h.1 b_Lw_option_17 rfl trivial ?_
  refine mj_blk h.1 b_Lw_option_28 rfl trivial ?_
  exact mj_iret h rfl d_Lw_option_29 (by decide) (by decide) ⟨rfl, rfl⟩
set_option maxRecDepth 100000 in
set_option maxHeartbeats 8000000 in
theorem ew_option_5_2 (l : Launch) (D : va_G) (cA : Nat → ClassId) (st : Bool) (n0 : Nat) (g : Nat → Int64) (wy pt : Int32) (cz : Nat) (v : Int64) (m a b : Int32) (hg : ¬ nI cz < 1 ∧ ¬ 6 < nI cz ∧ ¬ m < 0 ∧ ¬ 7 < m ∧ ¬ a < -80 ∧ ¬ 80 < a ∧ ¬ b < 0 ∧ b ≤ 80) : mj_EvW zG l D cA m_Lw_option h_option 7 270 1 7 [.ref 50, .int (nI cz), .long v, .int m, .int a, .int b, .ref 300] [(50, cSw st 5), (53, cRs [some 100, some 110, some 120, some 130, some 140, none]), (140, cRu 141 wy pt 2), (141, cOs [some 142, some 143, none]), (300, cLg g)] [0, 40, 50, 51, 53, 60, 70, 100, 110, 120, 130, 140, 141, 142, 143, 300] Z_0 TLx n0 (fun r1 w1 => r1 = some (.int 0) ∧ w1 = [(50, cSw st 5), (53, cRs [some 100, some 110, some 120, some 130, some 140, none]), (140, cRu 141 wy pt 3), (141, cOs [some 142, some 143, some 144]), (300, cLg (vp_updL g 0 (nI 3).toInt64))] ++ [(144, cOt (uNew cz v m a b))]) := by
  refine mj_evW (lv := [(0, .ref 50), (1, .int (nI cz)), (2, .long v), (4, .int m), (5, .int a), (6, .int b), (7, .ref 300)]) (by decide +kernel) (Nat.le_of_ble_eq_true rfl) rfl (fun X h hZ hX => ?_)
  refine mj_blk h.1 b_Lw_option_0 rfl trivial ?_
  refine mj_callN h zGood hZ (ev_Sw_option_5_2 l D cA st wy pt cz v m a b hg) v_Sw_option l_Lw_option_12 ⟨(fun _ h => nomatch h), (fun _ h => nomatch h)⟩ d_Lw_option_12 rfl ⟨by decide, by decide⟩ ⟨by decide, by decide⟩ [] [(144, 144)] rfl rfl rfl rfl rfl rfl (Nat.le_of_ble_eq_true rfl) rfl ?_
  rintro _ _ ⟨rfl, rfl⟩
  refine mj_k9 rfl rfl rfl rfl rfl rfl rfl rfl ?_
  refine mj_blk h.1 b_Lw_option_15 rfl trivial ?_
  refine mj_lasto h.1 rfl rfl (show vp_in (nI 0) 1 from vp_in_nI (by decide) (by decide)) d_Lw_option_16 rfl ?_
  refine mj_blk h.1 b_Lw_option_17 rfl trivial ?_
  refine mj_blk h.1 b_Lw_option_28 rfl trivial ?_
  exact mj_iret h rfl d_Lw_option_29 (by decide) (by decide) ⟨rfl, rfl⟩
set_option maxRecDepth 100000 in
set_option maxHeartbeats 8000000 in
theorem ew_option_6_0 (l : Launch) (D : va_G) (cA : Nat → ClassId) (st : Bool) (n0 : Nat) (g : Nat → Int64) (wy pt : Int32) (cz : Nat) (v : Int64) (m a b : Int32) (hg : ¬ nI cz < 1 ∧ ¬ 6 < nI cz ∧ ¬ m < 0 ∧ ¬ 7 < m ∧ ¬ a < -80 ∧ ¬ 80 < a ∧ ¬ b < 0 ∧ b ≤ 80) : mj_EvW zG l D cA m_Lw_option h_option 7 270 1 7 [.ref 50, .int (nI cz), .long v, .int m, .int a, .int b, .ref 300] [(50, cSw st 6), (53, cRs [some 100, some 110, some 120, some 130, some 140, some 150]), (150, cRu 151 wy pt 0), (151, cOs [none, none, none]), (300, cLg g)] [0, 40, 50, 51, 53, 60, 70, 100, 110, 120, 130, 140, 150, 151, 300] Z_0 TLx n0 (fun r1 w1 => r1 = some (.int 0) ∧ w1 = [(50, cSw st 6), (53, cRs [some 100, some 110, some 120, some 130, some 140, some 150]), (150, cRu 151 wy pt 1), (151, cOs [some 152, none, none]), (300, cLg (vp_updL g 0 (nI 1).toInt64))] ++ [(152, cOt (uNew cz v m a b))]) := by
  refine mj_evW (lv := [(0, .ref 50), (1, .int (nI cz)), (2, .long v), (4, .int m), (5, .int a), (6, .int b), (7, .ref 300)]) (by decide +kernel) (Nat.le_of_ble_eq_true rfl) rfl (fun X h hZ hX => ?_)
  refine mj_blk h.1 b_Lw_option_0 rfl trivial ?_
  refine mj_callN h zGood hZ (ev_Sw_option_6_0 l D cA st wy pt cz v m a b hg) v_Sw_option l_Lw_option_12 ⟨(fun _ h => nomatch h), (fun _ h => nomatch h)⟩ d_Lw_option_12 rfl ⟨by decide, by decide⟩ ⟨by decide, by decide⟩ [] [(152, 152)] rfl rfl rfl rfl rfl rfl (Nat.le_of_ble_eq_true rfl) rfl ?_
  rintro _ _ ⟨rfl, rfl⟩
  refine mj_k9 rfl rfl rfl rfl rfl rfl rfl rfl ?_
  refine mj_blk h.1 b_Lw_option_15 rfl trivial ?_
  refine mj_lasto h.1 rfl rfl (show vp_in (nI 0) 1 from vp_in_nI (by decide) (by decide)) d_Lw_option_16 rfl ?_
  refine mj_blk h.1 b_Lw_option_17 rfl trivial ?_
  refine mj_blk h.1 b_Lw_option_28 rfl trivial ?_
  exact mj_iret h rfl d_Lw_option_29 (by decide) (by decide) ⟨rfl, rfl⟩
set_option maxRecDepth 100000 in
set_option maxHeartbeats 8000000 in
theorem ew_option_6_1 (l : Launch) (D : va_G) (cA : Nat → ClassId) (st : Bool) (n0 : Nat) (g : Nat → Int64) (wy pt : Int32) (cz : Nat) (v : Int64) (m a b : Int32) (hg : ¬ nI cz < 1 ∧ ¬ 6 < nI cz ∧ ¬ m < 0 ∧ ¬ 7 < m ∧ ¬ a < -80 ∧ ¬ 80 < a ∧ ¬ b < 0 ∧ b ≤ 80) : mj_EvW zG l D cA m_Lw_option h_option 7 270 1 7 [.ref 50, .int (nI cz), .long v, .int m, .int a, .int b, .ref 300] [(50, cSw st 6), (53, cRs [some 100, some 110, some 120, some 130, some 140, some 150]), (150, cRu 151 wy pt 1), (151, cOs [some 152, none, none]), (300, cLg g)] [0, 40, 50, 51, 53, 60, 70, 100, 110, 120, 130, 140, 150, 151, 152, 300] Z_0 TLx n0 (fun r1 w1 => r1 = some (.int 0) ∧ w1 = [(50, cSw st 6), (53, cRs [some 100, some 110, some 120, some 130, some 140, some 150]), (150, cRu 151 wy pt 2), (151, cOs [some 152, some 153, none]), (300, cLg (vp_updL g 0 (nI 2).toInt64))] ++ [(153, cOt (uNew cz v m a b))]) := by
  refine mj_evW (lv := [(0, .ref 50), (1, .int (nI cz)), (2, .long v), (4, .int m), (5, .int a), (6, .int b), (7, .ref 300)]) (by decide +kernel) (Nat.le_of_ble_eq_true rfl) rfl (fun X h hZ hX => ?_)
  refine mj_blk h.1 b_Lw_option_0 rfl trivial ?_
  refine mj_callN h zGood hZ (ev_Sw_option_6_1 l D cA st wy pt cz v m a b hg) v_Sw_option l_Lw_option_12 ⟨(fun _ h => nomatch h), (fun _ h => nomatch h)⟩ d_Lw_option_12 rfl ⟨by decide, by decide⟩ ⟨by decide, by decide⟩ [] [(153, 153)] rfl rfl rfl rfl rfl rfl (Nat.le_of_ble_eq_true rfl) rfl ?_
  rintro _ _ ⟨rfl, rfl⟩
  refine mj_k9 rfl rfl rfl rfl rfl rfl rfl rfl ?_
  refine mj_blk h.1 b_Lw_option_15 rfl trivial ?_
  refine mj_lasto h.1 rfl rfl (show vp_in (nI 0) 1 from vp_in_nI (by decide) (by decide)) d_Lw_option_16 rfl ?_
  refine mj_blk h.1 b_Lw_option_17 rfl trivial ?_
  refine mj_blk h.1 b_Lw_option_28 rfl trivial ?_
  exact mj_iret h rfl d_Lw_option_29 (by decide) (by decide) ⟨rfl, rfl⟩
set_option maxRecDepth 100000 in
set_option maxHeartbeats 8000000 in
theorem ew_option_6_2 (l : Launch) (D : va_G) (cA : Nat → ClassId) (st : Bool) (n0 : Nat) (g : Nat → Int64) (wy pt : Int32) (cz : Nat) (v : Int64) (m a b : Int32) (hg : ¬ nI cz < 1 ∧ ¬ 6 < nI cz ∧ ¬ m < 0 ∧ ¬ 7 < m ∧ ¬ a < -80 ∧ ¬ 80 < a ∧ ¬ b < 0 ∧ b ≤ 80) : mj_EvW zG l D cA m_Lw_option h_option 7 270 1 7 [.ref 50, .int (nI cz), .long v, .int m, .int a, .int b, .ref 300] [(50, cSw st 6), (53, cRs [some 100, some 110, some 120, some 130, some 140, some 150]), (150, cRu 151 wy pt 2), (151, cOs [some 152, some 153, none]), (300, cLg g)] [0, 40, 50, 51, 53, 60, 70, 100, 110, 120, 130, 140, 150, 151, 152, 153, 300] Z_0 TLx n0 (fun r1 w1 => r1 = some (.int 0) ∧ w1 = [(50, cSw st 6), (53, cRs [some 100, some 110, some 120, some 130, some 140, some 150]), (150, cRu 151 wy pt 3), (151, cOs [some 152, some 153, some 154]), (300, cLg (vp_updL g 0 (nI 3).toInt64))] ++ [(154, cOt (uNew cz v m a b))]) := by
  refine mj_evW (lv := [(0, .ref 50), (1, .int (nI cz)), (2, .long v), (4, .int m), (5, .int a), (6, .int b), (7, .ref 300)]) (by decide +kernel) (Nat.le_of_ble_eq_true rfl) rfl (fun X h hZ hX => ?_)
  refine mj_blk h.1 b_Lw_option_0 rfl trivial ?_
  refine mj_callN h zGood hZ (ev_Sw_option_6_2 l D cA st wy pt cz v m a b hg) v_Sw_option l_Lw_option_12 ⟨(fun _ h => nomatch h), (fun _ h => nomatch h)⟩ d_Lw_option_12 rfl ⟨by decide, by decide⟩ ⟨by decide, by decide⟩ [] [(154, 154)] rfl rfl rfl rfl rfl rfl (Nat.le_of_ble_eq_true rfl) rfl ?_
  rintro _ _ ⟨rfl, rfl⟩
  refine mj_k9 rfl rfl rfl rfl rfl rfl rfl rfl ?_
  refine mj_blk h.1 b_Lw_option_15 rfl trivial ?_
  refine mj_lasto h.1 rfl rfl (show vp_in (nI 0) 1 from vp_in_nI (by decide) (by decide)) d_Lw_option_16 rfl ?_
  refine mj_blk h.1 b_Lw_option_17 rfl trivial ?_
  refine mj_blk h.1 b_Lw_option_28 rfl trivial ?_
  exact mj_iret h rfl d_Lw_option_29 (by decide) (by decide) ⟨rfl, rfl⟩
set_option maxRecDepth 100000 in
set_option maxHeartbeats 8000000 in
theorem ew_option_b (l : Launch) (hfl : l.flags = pinnedFlags ++ [noTraceFlag]) (D : va_G) (cA : Nat → ClassId) (st : Bool) (n0 : Nat) (g : Nat → Int64) (rc : Nat) (c : Int32) (v : Int64) (m a b : Int32) (hb : ¬ (¬ c < 1 ∧ ¬ 6 < c ∧ ¬ m < 0 ∧ ¬ 7 < m ∧ ¬ a < -80 ∧ ¬ 80 < a ∧ ¬ b < 0 ∧ b ≤ 80)) : mj_EvW zG l D cA m_Lw_option h_option 7 270 1 6 [.ref 50, .int c, .long v, .int m, .int a, .int b, .ref 300] [(50, cSw st rc), (300, cLg g)] [0, 40, 50, 51, 53, 60, 70, 300] Z_0 TLx n0 (fun r1 w1 => r1 = some (.int 1) ∧ w1 = [(50, cSw st rc), (300, cLg g)]) := by
  refine mj_evW (lv := [(0, .ref 50), (1, .int c), (2, .long v), (4, .int m), (5, .int a), (6, .int b), (7, .ref 300)]) (by decide +kernel) (Nat.le_of_ble_eq_true rfl) rfl (fun X h hZ hX => ?_)
  refine mj_blk h.1 b_Lw_option_0 rfl trivial ?_
  refine mj_callT h zGood hX (evT_Sw_option l hfl D cA st n0 c v m a b rc hb) v_Sw_option l_Lw_option_12 d_Lw_option_12 rfl ⟨by decide, by decide⟩ ⟨by decide, by decide⟩ [] rfl rfl (mj_ct_in (w := [(50, cSw st rc), (300, cLg g)]) rfl).2 rfl rfl (Nat.le_of_ble_eq_true rfl) [] ⟨0, 17, 20, 13⟩ [⟨0, 17, 24, 19⟩] rfl (fun _ h => nomatch h) rfl (by decide) lw_k13 tx_ia 399 (mj_bl_no rfl) ⟨(mj_fb_ok (lv := []) (st := []) rfl).1, (mj_fb_ok (w := []) (st := []) rfl).2.1⟩ ?_
  refine mj_blk h.1 b_Lw_option_20 rfl trivial ?_
  exact mj_iret h rfl d_Lw_option_23 (by decide) (by decide) ⟨rfl, rfl⟩
set_option maxRecDepth 100000 in
set_option maxHeartbeats 8000000 in
theorem ew_option_0 (l : Launch) (hfl : l.flags = pinnedFlags ++ [noTraceFlag]) (D : va_G) (cA : Nat → ClassId) (st : Bool) (n0 : Nat) (g : Nat → Int64) (c : Int32) (v : Int64) (m a b : Int32) (hg : ¬ c < 1 ∧ ¬ 6 < c ∧ ¬ m < 0 ∧ ¬ 7 < m ∧ ¬ a < -80 ∧ ¬ 80 < a ∧ ¬ b < 0 ∧ b ≤ 80) : mj_EvW zG l D cA m_Lw_option h_option 7 270 1 6 [.ref 50, .int c, .long v, .int m, .int a, .int b, .ref 300] [(50, cSw st 0), (53, cRs [none, none, none, none, none, none]), (300, cLg g)] [0, 40, 50, 51, 53, 60, 70, 300] Z_0 TLx n0 (fun r1 w1 => r1 = some (.int 2) ∧ w1 = [(50, cSw st 0), (53, cRs [none, none, none, none, none, none]), (300, cLg g)]) := by
  refine mj_evW (lv := [(0, .ref 50), (1, .int c), (2, .long v), (4, .int m), (5, .int a), (6, .int b), (7, .ref 300)]) (by decide +kernel) (Nat.le_of_ble_eq_true rfl) rfl (fun X h hZ hX => ?_)
  refine mj_blk h.1 b_Lw_option_0 rfl trivial ?_
  refine mj_callT h zGood hX (evT_Sw_option0 l hfl D cA st n0 c v m a b hg) v_Sw_option l_Lw_option_12 d_Lw_option_12 rfl ⟨by decide, by decide⟩ ⟨by decide, by decide⟩ [] rfl rfl (mj_ct_in (w := [(50, cSw st 0), (53, cRs [none, none, none, none, none, none]), (300, cLg g)]) rfl).2 rfl rfl (Nat.le_of_ble_eq_true rfl) [⟨0, 17, 20, 13⟩] ⟨0, 17, 24, 19⟩ [] rfl (List.forall_mem_cons.mpr ⟨Or.inr ⟨by decide, _, lw_k13, tx_no⟩, (fun _ h => nomatch h)⟩) rfl (by decide) lw_k19 tx_is 399 (mj_bl_no rfl) ⟨(mj_fb_ok (lv := []) (st := []) rfl).1, (mj_fb_ok (w := []) (st := []) rfl).2.1⟩ ?_
  refine mj_blk h.1 b_Lw_option_24 rfl trivial ?_
  exact mj_iret h rfl d_Lw_option_27 (by decide) (by decide) ⟨rfl, rfl⟩
set_option maxRecDepth 100000 in
set_option maxHeartbeats 8000000 in
theorem ew_option_1_3 (l : Launch) (hfl : l.flags = pinnedFlags ++ [noTraceFlag]) (D : va_G) (cA : Nat → ClassId) (st : Bool) (n0 : Nat) (g : Nat → Int64) (c : Int32) (v : Int64) (m a b : Int32) (wy pt : Int32) (hg : ¬ c < 1 ∧ ¬ 6 < c ∧ ¬ m < 0 ∧ ¬ 7 < m ∧ ¬ a < -80 ∧ ¬ 80 < a ∧ ¬ b < 0 ∧ b ≤ 80) : mj_EvW zG l D cA m_Lw_option h_option 7 270 1 6 [.ref 50, .int c, .long v, .int m, .int a, .int b, .ref 300] [(50, cSw st 1), (53, cRs [some 100, none, none, none, none, none]), (100, cRu 101 wy pt 3), (300, cLg g)] [0, 40, 50, 51, 53, 60, 70, 100, 101, 300] Z_0 TLx n0 (fun r1 w1 => r1 = some (.int 2) ∧ w1 = [(50, cSw st 1), (53, cRs [some 100, none, none, none, none, none]), (100, cRu 101 wy pt 3), (300, cLg g)]) := by
  refine mj_evW (lv := [(0, .ref 50), (1, .int c), (2, .long v), (4, .int m), (5, .int a), (6, .int b), (7, .ref 300)]) (by decide +kernel) (Nat.le_of_ble_eq_true rfl) rfl (fun X h hZ hX => ?_)
  refine mj_blk h.1 b_Lw_option_0 rfl trivial ?_
  refine mj_callT h zGood hX (evT_Sw_option_1 l hfl D cA st n0 c v m a b wy pt hg) v_Sw_option l_Lw_option_12 d_Lw_option_12 rfl ⟨by decide, by decide⟩ ⟨by decide, by decide⟩ [] rfl rfl (mj_ct_in (w := [(50, cSw st 1), (53, cRs [some 100, none, none, none, none, none]), (100, cRu 101 wy pt 3), (300, cLg g)]) rfl).2 rfl rfl (Nat.le_of_ble_eq_true rfl) [⟨0, 17, 20, 13⟩] ⟨0, 17, 24, 19⟩ [] rfl (List.forall_mem_cons.mpr ⟨Or.inr ⟨by decide, _, lw_k13, tx_no⟩, (fun _ h => nomatch h)⟩) rfl (by decide) lw_k19 tx_is 399 (mj_bl_no rfl) ⟨(mj_fb_ok (lv := []) (st := []) rfl).1, (mj_fb_ok (w := []) (st := []) rfl).2.1⟩ ?_
  refine mj_blk h.1 b_Lw_option_24 rfl trivial ?_
  exact mj_iret h rfl d_Lw_option_27 (by decide) (by decide) ⟨rfl, rfl⟩
set_option maxRecDepth 100000 in
set_option maxHeartbeats 8000000 in
theorem ew_option_2_3 (l : Launch) (hfl : l.flags = pinnedFlags ++ [noTraceFlag]) (D : va_G) (cA : Nat → ClassId) (st : Bool) (n0 : Nat) (g : Nat → Int64) (c : Int32) (v : Int64) (m a b : Int32) (wy pt : Int32) (hg : ¬ c < 1 ∧ ¬ 6 < c ∧ ¬ m < 0 ∧ ¬ 7 < m ∧ ¬ a < -80 ∧ ¬ 80 < a ∧ ¬ b < 0 ∧ b ≤ 80) : mj_EvW zG l D cA m_Lw_option h_option 7 270 1 6 [.ref 50, .int c, .long v, .int m, .int a, .int b, .ref 300] [(50, cSw st 2), (53, cRs [some 100, some 110, none, none, none, none]), (110, cRu 111 wy pt 3), (300, cLg g)] [0, 40, 50, 51, 53, 60, 70, 100, 110, 111, 300] Z_0 TLx n0 (fun r1 w1 => r1 = some (.int 2) ∧ w1 = [(50, cSw st 2), (53, cRs [some 100, some 110, none, none, none, none]), (110, cRu 111 wy pt 3), (300, cLg g)]) := by
  refine mj_evW (lv := [(0, .ref 50), (1, .int c), (2, .long v), (4, .int m), (5, .int a), (6, .int b), (7, .ref 300)]) (by decide +kernel) (Nat.le_of_ble_eq_true rfl) rfl (fun X h hZ hX => ?_)
  refine mj_blk h.1 b_Lw_option_0 rfl trivial ?_
  refine mj_callT h zGood hX (evT_Sw_option_2 l hfl D cA st n0 c v m a b wy pt hg) v_Sw_option l_Lw_option_12 d_Lw_option_12 rfl ⟨by decide, by decide⟩ ⟨by decide, by decide⟩ [] rfl rfl (mj_ct_in (w := [(50, cSw st 2), (53, cRs [some 100, some 110, none, none, none, none]), (110, cRu 111 wy pt 3), (300, cLg g)]) rfl).2 rfl rfl (Nat.le_of_ble_eq_true rfl) [⟨0, 17, 20, 13⟩] ⟨0, 17, 24, 19⟩ [] rfl (List.forall_mem_cons.mpr ⟨Or.inr ⟨by decide, _, lw_k13, tx_no⟩, (fun _ h => nomatch h)⟩) rfl (by decide) lw_k19 tx_is 399 (mj_bl_no rfl) ⟨(mj_fb_ok (lv := []) (st := []) rfl).1, (mj_fb_ok (w := []) (st := []) rfl).2.1⟩ ?_
  refine mj_blk h.1 b_Lw_option_24 rfl trivial ?_
  exact mj_iret h rfl d_Lw_option_27 (by decide) (by decide) ⟨rfl, rfl⟩
set_option maxRecDepth 100000 in
set_option maxHeartbeats 8000000 in
theorem ew_option_3_3 (l : Launch) (hfl : l.flags = pinnedFlags ++ [noTraceFlag]) (D : va_G) (cA : Nat → ClassId) (st : Bool) (n0 : Nat) (g : Nat → Int64) (c : Int32) (v : Int64) (m a b : Int32) (wy pt : Int32) (hg : ¬ c < 1 ∧ ¬ 6 < c ∧ ¬ m < 0 ∧ ¬ 7 < m ∧ ¬ a < -80 ∧ ¬ 80 < a ∧ ¬ b < 0 ∧ b ≤ 80) : mj_EvW zG l D cA m_Lw_option h_option 7 270 1 6 [.ref 50, .int c, .long v, .int m, .int a, .int b, .ref 300] [(50, cSw st 3), (53, cRs [some 100, some 110, some 120, none, none, none]), (120, cRu 121 wy pt 3), (300, cLg g)] [0, 40, 50, 51, 53, 60, 70, 100, 110, 120, 121, 300] Z_0 TLx n0 (fun r1 w1 => r1 = some (.int 2) ∧ w1 = [(50, cSw st 3), (53, cRs [some 100, some 110, some 120, none, none, none]), (120, cRu 121 wy pt 3), (300, cLg g)]) := by
  refine mj_evW (lv := [(0, .ref 50), (1, .int c), (2, .long v), (4, .int m), (5, .int a), (6, .int b), (7, .ref 300)]) (by decide +kernel) (Nat.le_of_ble_eq_true rfl) rfl (fun X h hZ hX => ?_)
  refine mj_blk h.1 b_Lw_option_0 rfl trivial ?_
  refine mj_callT h zGood hX (evT_Sw_option_3 l hfl D cA st n0 c v m a b wy pt hg) v_Sw_option l_Lw_option_12 d_Lw_option_12 rfl ⟨by decide, by decide⟩ ⟨by decide, by decide⟩ [] rfl rfl (mj_ct_in (w := [(50, cSw st 3), (53, cRs [some 100, some 110, some 120, none, none, none]), (120, cRu 121 wy pt 3), (300, cLg g)]) rfl).2 rfl rfl (Nat.le_of_ble_eq_true rfl) [⟨0, 17, 20, 13⟩] ⟨0, 17, 24, 19⟩ [] rfl (List.forall_mem_cons.mpr ⟨Or.inr ⟨by decide, _, lw_k13, tx_no⟩, (fun _ h => nomatch h)⟩) rfl (by decide) lw_k19 tx_is 399 (mj_bl_no rfl) ⟨(mj_fb_ok (lv := []) (st := []) rfl).1, (mj_fb_ok (w := []) (st := []) rfl).2.1⟩ ?_
  refine mj_blk h.1 b_Lw_option_24 rfl trivial ?_
  exact mj_iret h rfl d_Lw_option_27 (by decide) (by decide) ⟨rfl, rfl⟩
set_option maxRecDepth 100000 in
set_option maxHeartbeats 8000000 in
theorem ew_option_4_3 (l : Launch) (hfl : l.flags = pinnedFlags ++ [noTraceFlag]) (D : va_G) (cA : Nat → ClassId) (st : Bool) (n0 : Nat) (g : Nat → Int64) (c : Int32) (v : Int64) (m a b : Int32) (wy pt : Int32) (hg : ¬ c < 1 ∧ ¬ 6 < c ∧ ¬ m < 0 ∧ ¬ 7 < m ∧ ¬ a < -80 ∧ ¬ 80 < a ∧ ¬ b < 0 ∧ b ≤ 80) : mj_EvW zG l D cA m_Lw_option h_option 7 270 1 6 [.ref 50, .int c, .long v, .int m, .int a, .int b, .ref 300] [(50, cSw st 4), (53, cRs [some 100, some 110, some 120, some 130, none, none]), (130, cRu 131 wy pt 3), (300, cLg g)] [0, 40, 50, 51, 53, 60, 70, 100, 110, 120, 130, 131, 300] Z_0 TLx n0 (fun r1 w1 => r1 = some (.int 2) ∧ w1 = [(50, cSw st 4), (53, cRs [some 100, some 110, some 120, some 130, none, none]), (130, cRu 131 wy pt 3), (300, cLg g)]) := by
  refine mj_evW (lv := [(0, .ref 50), (1, .int c), (2, .long v), (4, .int m), (5, .int a), (6, .int b), (7, .ref 300)]) (by decide +kernel) (Nat.le_of_ble_eq_true rfl) rfl (fun X h hZ hX => ?_)
  refine mj_blk h.1 b_Lw_option_0 rfl trivial ?_
  refine mj_callT h zGood hX (evT_Sw_option_4 l hfl D cA st n0 c v m a b wy pt hg) v_Sw_option l_Lw_option_12 d_Lw_option_12 rfl ⟨by decide, by decide⟩ ⟨by decide, by decide⟩ [] rfl rfl (mj_ct_in (w := [(50, cSw st 4), (53, cRs [some 100, some 110, some 120, some 130, none, none]), (130, cRu 131 wy pt 3), (300, cLg g)]) rfl).2 rfl rfl (Nat.le_of_ble_eq_true rfl) [⟨0, 17, 20, 13⟩] ⟨0, 17, 24, 19⟩ [] rfl (List.forall_mem_cons.mpr ⟨Or.inr ⟨by decide, _, lw_k13, tx_no⟩, (fun _ h => nomatch h)⟩) rfl (by decide) lw_k19 tx_is 399 (mj_bl_no rfl) ⟨(mj_fb_ok (lv := []) (st := []) rfl).1, (mj_fb_ok (w := []) (st := []) rfl).2.1⟩ ?_
  refine mj_blk h.1 b_Lw_option_24 rfl trivial ?_
  exact mj_iret h rfl d_Lw_option_27 (by decide) (by decide) ⟨rfl, rfl⟩
set_option maxRecDepth 100000 in
set_option maxHeartbeats 8000000 in
theorem ew_option_5_3 (l : Launch) (hfl : l.flags = pinnedFlags ++ [noTraceFlag]) (D : va_G) (cA : Nat → ClassId) (st : Bool) (n0 : Nat) (g : Nat → Int64) (c : Int32) (v : Int64) (m a b : Int32) (wy pt : Int32) (hg : ¬ c < 1 ∧ ¬ 6 < c ∧ ¬ m < 0 ∧ ¬ 7 < m ∧ ¬ a < -80 ∧ ¬ 80 < a ∧ ¬ b < 0 ∧ b ≤ 80) : mj_EvW zG l D cA m_Lw_option h_option 7 270 1 6 [.ref 50, .int c, .long v, .int m, .int a, .int b, .ref 300] [(50, cSw st 5), (53, cRs [some 100, some 110, some 120, some 130, some 140, none]), (140, cRu 141 wy pt 3), (300, cLg g)] [0, 40, 50, 51, 53, 60, 70, 100, 110, 120, 130, 140, 141, 300] Z_0 TLx n0 (fun r1 w1 => r1 = some (.int 2) ∧ w1 = [(50, cSw st 5), (53, cRs [some 100, some 110, some 120, some 130, some 140, none]), (140, cRu 141 wy pt 3), (300, cLg g)]) := by
  refine mj_evW (lv := [(0, .ref 50), (1, .int c), (2, .long v), (4, .int m), (5, .int a), (6, .int b), (7, .ref 300)]) (by decide +kernel) (Nat.le_of_ble_eq_true rfl) rfl (fun X h hZ hX => ?_)
  refine mj_blk h.1 b_Lw_option_0 rfl trivial ?_
  refine mj_callT h zGood hX (evT_Sw_option_5 l hfl D cA st n0 c v m a b wy pt hg) v_Sw_option l_Lw_option_12 d_Lw_option_12 rfl ⟨by decide, by decide⟩ ⟨by decide, by decide⟩ [] rfl rfl (mj_ct_in (w := [(50, cSw st 5), (53, cRs [some 100, some 110, some 120, some 130, some 140, none]), (140, cRu 141 wy pt 3), (300, cLg g)]) rfl).2 rfl rfl (Nat.le_of_ble_eq_true rfl) [⟨0, 17, 20, 13⟩] ⟨0, 17, 24, 19⟩ [] rfl (List.forall_mem_cons.mpr ⟨Or.inr ⟨by decide, _, lw_k13, tx_no⟩, (fun _ h => nomatch h)⟩) rfl (by decide) lw_k19 tx_is 399 (mj_bl_no rfl) ⟨(mj_fb_ok (lv := []) (st := []) rfl).1, (mj_fb_ok (w := []) (st := []) rfl).2.1⟩ ?_
  refine mj_blk h.1 b_Lw_option_24 rfl trivial ?_
  exact mj_iret h rfl d_Lw_option_27 (by decide) (by decide) ⟨rfl, rfl⟩
set_option maxRecDepth 100000 in
set_option maxHeartbeats 8000000 in
theorem ew_option_6_3 (l : Launch) (hfl : l.flags = pinnedFlags ++ [noTraceFlag]) (D : va_G) (cA : Nat → ClassId) (st : Bool) (n0 : Nat) (g : Nat → Int64) (c : Int32) (v : Int64) (m a b : Int32) (wy pt : Int32) (hg : ¬ c < 1 ∧ ¬ 6 < c ∧ ¬ m < 0 ∧ ¬ 7 < m ∧ ¬ a < -80 ∧ ¬ 80 < a ∧ ¬ b < 0 ∧ b ≤ 80) : mj_EvW zG l D cA m_Lw_option h_option 7 270 1 6 [.ref 50, .int c, .long v, .int m, .int a, .int b, .ref 300] [(50, cSw st 6), (53, cRs [some 100, some 110, some 120, some 130, some 140, some 150]), (150, cRu 151 wy pt 3), (300, cLg g)] [0, 40, 50, 51, 53, 60, 70, 100, 110, 120, 130, 140, 150, 151, 300] Z_0 TLx n0 (fun r1 w1 => r1 = some (.int 2) ∧ w1 = [(50, cSw st 6), (53, cRs [some 100, some 110, some 120, some 130, some 140, some 150]), (150, cRu 151 wy pt 3), (300, cLg g)]) := by
  refine mj_evW (lv := [(0, .ref 50), (1, .int c), (2, .long v), (4, .int m), (5, .int a), (6, .int b), (7, .ref 300)]) (by decide +kernel) (Nat.le_of_ble_eq_true rfl) rfl (fun X h hZ hX => ?_)
  refine mj_blk h.1 b_Lw_option_0 rfl trivial ?_
  refine mj_callT h zGood hX (evT_Sw_option_6 l hfl D cA st n0 c v m a b wy pt hg) v_Sw_option l_Lw_option_12 d_Lw_option_12 rfl ⟨by decide, by decide⟩ ⟨by decide, by decide⟩ [] rfl rfl (mj_ct_in (w := [(50, cSw st 6), (53, cRs [some 100, some 110, some 120, some 130, some 140, some 150]), (150, cRu 151 wy pt 3), (300, cLg g)]) rfl).2 rfl rfl (Nat.le_of_ble_eq_true rfl) [⟨0, 17, 20, 13⟩] ⟨0, 17, 24, 19⟩ [] rfl (List.forall_mem_cons.mpr ⟨Or.inr ⟨by decide, _, lw_k13, tx_no⟩, (fun _ h => nomatch h)⟩) rfl (by decide) lw_k19 tx_is 399 (mj_bl_no rfl) ⟨(mj_fb_ok (lv := []) (st := []) rfl).1, (mj_fb_ok (w := []) (st := []) rfl).2.1⟩ ?_
  refine mj_blk h.1 b_Lw_option_24 rfl trivial ?_
  exact mj_iret h rfl d_Lw_option_27 (by decide) (by decide) ⟨rfl, rfl⟩
